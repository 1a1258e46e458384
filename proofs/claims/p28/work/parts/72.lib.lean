/-! What holds between two steps of the reader of tests. -/
def sA (A : St) : Int := 1600 * A 0 47 + A 31 (6 * A 0 47 + A 29 (A 0 47).toNat).toNat
def RI (op : Int) (A : St) : Prop :=
  A 0 53 = A 0 54 + 1 ∧ FR (A 40) (A 39) (A 0 53) (A 0 56) ∧
  (A 35 0 ≤ 1 ∧ (∀ i : Nat, 1 ≤ i → (i : Int) < A 0 53 → 2 ≤ A 35 i)) ∧
  ((∀ i : Nat, (i : Int) + 1 < A 0 53 → A 37 i = 0) ∧ (op = 1 → A 37 (A 0 53 - 1).toNat = 0) ∧ (A 37 (A 0 53 - 1).toNat = 1 → A 0 56 = A 39 (A 0 53 - 1).toNat ∨ rk (A 40 (A 0 56 - 1).toNat) ≤ 3)) ∧
  DP (A 33) (sA A) (1600 * A 0 47 + A 0 46) (nz (A 40) (A 0 56).toNat + k4 (A 35) (A 0 53).toNat + op) ∧
  (A 0 46 + A 0 56 ≤ A 0 4 ∧ 4 * (A 0 56 - nz (A 40) (A 0 56).toNat) ≤ A 0 4 + (if A 0 3 = 1 then 0 else 1) ∧ A 0 4 ≤ A 0 5 ∧ LX A)
def EQ (V : St) (r29 r31 r33 r35 r37 r39 r40 : Nat → Int) (c46 c47 c53 c54 c56 : Int) : Prop := V 29 = r29 ∧ V 31 = r31 ∧ V 33 = r33 ∧ V 35 = r35 ∧ V 37 = r37 ∧ V 39 = r39 ∧ V 40 = r40 ∧ V 0 46 = c46 ∧ V 0 47 = c47 ∧ V 0 53 = c53 ∧ V 0 54 = c54 ∧ V 0 56 = c56
theorem sA_0 {A : St} (hI : IM A) : 0 ≤ sA A := by
  unfold sA
  have h1 : (0 : Int) ≤ A 0 47 := (hI 0 47).1
  have h2 : (0 : Int) ≤ A 31 (6 * A 0 47 + A 29 (A 0 47).toNat).toNat := (hI 31 _).1
  omega
theorem im39 {A : St} (hI : IM A) : ∀ i, 0 ≤ A 39 i := fun i => (hI 39 i).1
theorem RI.deep {op : Int} {A : St} (h : RI op A) (hI : IM A) : 1 ≤ A 0 53 ∧ A 0 53 ≤ 9 := by
  have h1 := h.1
  have h2 : (0 : Int) ≤ A 0 54 := (hI 0 54).1
  have h3 : A 0 54 ≤ 8 := (hI 0 54).2
  omega
theorem RI.room {op : Int} {A : St} (h : RI op A) (hI : IM A) : A 0 56 ≤ 455 ∧ A 0 46 + A 0 56 ≤ A 0 4 := by
  have hd := RI.deep h hI
  have hb := FR.bound h.2.1 (im39 hI) hd.1
  have h4 : A 0 4 ≤ 1600 := (hI 0 4).2
  have h5 := h.2.2.2.2.2.2.1
  have h6 := h.2.2.2.2.2.1
  split at h5 <;> omega
theorem RI.base {op : Int} {A : St} (h : RI op A) : A 39 (A 0 53 - 1).toNat ≤ A 0 56 := h.2.1.2.2.2.1
theorem RI.pop {B V : St} (h : RI 1 B) (hI : IM B) (hm : B 39 (B 0 53 - 1).toNat < B 0 56)
    (hE : EQ V (B 29) (B 31) (up (B 33) (1600 * B 0 47 + B 0 46).toNat (B 40 (B 0 56 - 1).toNat)) (B 35) (B 37) (B 39) (B 40) (B 0 46 + 1) (B 0 47) (B 0 53) (B 0 54) (B 0 56 - 1)) (e3 : V 0 3 = B 0 3) (e4 : V 0 4 = B 0 4) (e5 : V 0 5 = B 0 5) (hL : LX V) : RI 1 V := by
  have hd := RI.deep h hI
  have hg := im39 hI
  have hs := sA_0 hI
  obtain ⟨h1, h2, h3, h4, h5, h6⟩ := h
  obtain ⟨e29, e31, e33, e35, e37, e39, e40, e46, e47, e53, e54, e56⟩ := hE
  have hx : 10 ≤ B 40 (B 0 56 - 1).toNat := h2.2.2.2.2.2 (B 0 56 - 1).toNat (by have := hg (B 0 53 - 1).toNat; omega)
  have hx2 : B 40 (B 0 56 - 1).toNat ≤ 22 := (hI 40 _).2
  have hgD := hg (B 0 53 - 1).toNat
  have en : (B 0 56).toNat = (B 0 56 - 1).toNat + 1 := by omega
  have hnz := nz_s (f := B 40) (i := (B 0 56 - 1).toNat)
  rw [← en] at hnz
  have n0 := nz_0 (B 40) (B 0 56 - 1).toNat
  have k0 := k4_0 (B 35) (B 0 53).toNat
  have es : sA V = sA B := by unfold sA; rw [e47, e31, e29]
  unfold RI
  rw [es, e33, e35, e37, e39, e40, e46, e47, e53, e54, e56, e3, e4, e5]
  have e1600 : 1600 * B 0 47 + (B 0 46 + 1) = 1600 * B 0 47 + B 0 46 + 1 := by omega
  rw [e1600]
  refine ⟨h1, h2.pop hg hm, h3, ⟨h4.1, h4.2.1, fun hb => absurd hb (by rw [h4.2.1 rfl]; decide)⟩, h5.add hs ?_, by omega, ?_, h6.2.2.1, hL⟩
  · split at hnz
    · exact Or.inr (Or.inl ⟨by assumption, by omega, by omega⟩)
    · exact Or.inr (Or.inr ⟨hx, by omega, by omega, by omega⟩)
  · have := h6.2.1
    split at hnz <;> omega
theorem RI.op {B V : St} {x : Int} (h : RI 1 B) (hI : IM B) (hsg : B 0 3 ≠ 0) (hx : 10 ≤ x ∧ x ≤ 21) (ht : B 0 56 = B 39 (B 0 53 - 1).toNat ∨ rk (B 40 (B 0 56 - 1).toNat) < rk x) {r37 : Nat → Int} (hr : ∀ i : Nat, (i : Int) + 1 < B 0 53 → r37 i = B 37 i) (hb : r37 (B 0 53 - 1).toNat = 1 → rk x ≤ 3)
    (hE : EQ V (B 29) (B 31) (B 33) (B 35) r37 (B 39) (up (B 40) (B 0 56).toNat x) (B 0 46) (B 0 47) (B 0 53) (B 0 54) (B 0 56 + 1)) (h1' : B 0 5 ≤ V 0 4) (h2' : V 0 4 ≤ V 0 5) (hL : LX V) : RI 0 V := by
  have hd := RI.deep h hI
  have hg := im39 hI
  obtain ⟨h1, h2, h3, h4, h5, h6⟩ := h
  obtain ⟨e29, e31, e33, e35, e37, e39, e40, e46, e47, e53, e54, e56⟩ := hE
  have hlt := h6.2.2.2.1.resolve_left hsg
  have hgD := hg (B 0 53 - 1).toNat
  have hm0 := h2.2.2.2.1
  have en : (B 0 56 + 1).toNat = (B 0 56).toNat + 1 := by omega
  have hnz := nz_up (f := B 40) (i := (B 0 56).toNat) (v := x)
  rw [if_neg (by omega), ← en] at hnz
  have es : sA V = sA B := by unfold sA; rw [e47, e31, e29]
  have hrk := rk_r x
  unfold RI
  rw [es, e33, e35, e37, e39, e40, e46, e47, e53, e54, e56, hnz]
  refine ⟨h1, h2.push hg hd.1 hx.1 ?_ (fun _ => by rw [if_neg (by omega)]; omega), h3, ⟨fun i hi => by rw [hr i hi]; exact h4.1 i hi, fun h => absurd h (by decide), fun hb' => Or.inr ?_⟩, ?_, by omega, ?_, h2', hL⟩
  · rw [if_neg (by omega)]
    rcases h2.top hg with t | t
    · exact Or.inl t
    · rcases ht with t2 | t2
      · exact Or.inl t2
      · exact Or.inr (by omega)
  · have e1 : (B 0 56 + 1 - 1).toNat = (B 0 56).toNat := by omega
    rw [e1, up_same]
    exact hb hb'
  · have e : nz (B 40) (B 0 56).toNat + 1 + k4 (B 35) (B 0 53).toNat + 0 = nz (B 40) (B 0 56).toNat + k4 (B 35) (B 0 53).toNat + 1 := by omega
    rw [e]
    exact h5
  · have := h6.2.1
    split at this <;> split <;> omega
theorem RI.nt {B V : St} (h : RI 0 B) (hI : IM B) (hsg : B 0 3 = 1) (hw : B 0 7 = 7237492) (hbg : B 37 (B 0 53 - 1).toNat = 1)
    (hE : EQ V (B 29) (B 31) (B 33) (B 35) (B 37) (B 39) (up (B 40) (B 0 56).toNat 22) (B 0 46) (B 0 47) (B 0 53) (B 0 54) (B 0 56 + 1)) (e1 : V 1 = B 1) (h1' : B 0 5 ≤ V 0 4) (h2' : V 0 4 ≤ V 0 5) (hL : LX V) (hp : V 0 3 = 1 → 1 ≤ V 0 4 → (B 1 (V 0 4 - 1).toNat < 97 ∨ 122 < B 1 (V 0 4 - 1).toNat)) : RI 0 V := by
  have hd := RI.deep h hI
  have hg := im39 hI
  obtain ⟨h1, h2, h3, h4, h5, h6⟩ := h
  obtain ⟨e29, e31, e33, e35, e37, e39, e40, e46, e47, e53, e54, e56⟩ := hE
  have h3b := h6.2.2.2.2.2 hsg hw
  have hlet := h6.2.2.2.2.1 hsg
  have hgD := hg (B 0 53 - 1).toNat
  have hm0 := h2.2.2.2.1
  have en : (B 0 56 + 1).toNat = (B 0 56).toNat + 1 := by omega
  have hnz := nz_up (f := B 40) (i := (B 0 56).toNat) (v := 22)
  rw [if_pos rfl, ← en] at hnz
  have es : sA V = sA B := by unfold sA; rw [e47, e31, e29]
  have hnt := h6.2.1
  rw [if_pos hsg] at hnt
  have hcd := h6.1
  have h45 : (0 : Int) ≤ B 0 4 := (hI 0 4).1
  unfold RI
  rw [es, e33, e35, e37, e39, e40, e46, e47, e53, e54, e56, hnz]
  refine ⟨h1, h2.push hg hd.1 (by decide) ?_ (fun _ => by decide), h3, ⟨h4.1, fun h => absurd h (by decide), fun hb' => Or.inr ?_⟩, ?_, by omega, ?_, h2', hL⟩
  · rw [if_pos rfl]
    have hr : rk 22 = 3 := by decide
    rcases h4.2.2 hbg with t | t
    · exact Or.inl t
    · rcases h2.top hg with t2 | t2
      · exact Or.inl t2
      · exact Or.inr (by omega)
  · have e1 : (B 0 56 + 1 - 1).toNat = (B 0 56).toNat := by omega
    rw [e1, up_same]
    decide
  · rw [show nz (B 40) (B 0 56).toNat + 0 + k4 (B 35) (B 0 53).toNat + 0 = nz (B 40) (B 0 56).toNat + k4 (B 35) (B 0 53).toNat + 0 by omega]
    exact h5
  · split
    · have hp1 := hp (by assumption) (by omega)
      have : V 0 4 ≠ B 0 5 := by
        intro ev
        rw [ev] at hp1
        omega
      omega
    · omega
theorem RI.val {B V : St} {x : Int} (h : RI 0 B) (hI : IM B) (hsg : B 0 3 ≠ 0) (hx : x ≤ 9) {r37 : Nat → Int} (hr : ∀ i : Nat, (i : Int) + 1 < B 0 53 → r37 i = B 37 i) (hb : r37 (B 0 53 - 1).toNat = 0)
    (hE : EQ V (B 29) (B 31) (up (B 33) (1600 * B 0 47 + B 0 46).toNat x) (B 35) r37 (B 39) (B 40) (B 0 46 + 1) (B 0 47) (B 0 53) (B 0 54) (B 0 56)) (h1' : B 0 5 ≤ V 0 4) (h2' : V 0 4 ≤ V 0 5) (hL : LX V) : RI 1 V := by
  have hs := sA_0 hI
  obtain ⟨h1, h2, h3, h4, h5, h6⟩ := h
  obtain ⟨e29, e31, e33, e35, e37, e39, e40, e46, e47, e53, e54, e56⟩ := hE
  have hlt := h6.2.2.2.1.resolve_left hsg
  have es : sA V = sA B := by unfold sA; rw [e47, e31, e29]
  unfold RI
  rw [es, e33, e35, e37, e39, e40, e46, e47, e53, e54, e56]
  have e1600 : 1600 * B 0 47 + (B 0 46 + 1) = 1600 * B 0 47 + B 0 46 + 1 := by omega
  rw [e1600]
  refine ⟨h1, h2, h3, ⟨fun i hi => by rw [hr i hi]; exact h4.1 i hi, fun _ => hb, fun h => absurd h (by rw [hb]; decide)⟩, h5.add hs (Or.inl ⟨hx, by omega⟩), by omega, ?_, h2', hL⟩
  have := h6.2.1
  split at this <;> split <;> omega
theorem RI.opn {B V : St} {x : Int} (h : RI 0 B) (hI : IM B) (hsg : B 0 3 ≠ 0) (hx : 2 ≤ x) (hx4 : x ≠ 4) {r35 r37 r39 : Nat → Int} (hbg : B 37 (B 0 53 - 1).toNat = 0)
    (hE : EQ V (B 29) (B 31) (B 33) (up (B 35) (B 0 53).toNat x) (up (B 37) (B 0 53).toNat 1) (up (B 39) (B 0 53).toNat (B 0 56)) (B 40) (B 0 46) (B 0 47) (B 0 53 + 1) (B 0 54 + 1) (B 0 56)) (h1' : B 0 5 ≤ V 0 4) (h2' : V 0 4 ≤ V 0 5) (hL : LX V) : RI 0 V := by
  have hd := RI.deep h hI
  have hg := im39 hI
  have hm : (0 : Int) ≤ B 0 56 := (hI 0 56).1
  obtain ⟨h1, h2, h3, h4, h5, h6⟩ := h
  obtain ⟨e29, e31, e33, e35, e37, e39, e40, e46, e47, e53, e54, e56⟩ := hE
  have hlt := h6.2.2.2.1.resolve_left hsg
  have es : sA V = sA B := by unfold sA; rw [e47, e31, e29]
  have en : (B 0 53 + 1).toNat = (B 0 53).toNat + 1 := by omega
  have e53' : (B 0 53 + 1 - 1).toNat = (B 0 53).toNat := by omega
  unfold RI
  rw [es, e33, e35, e37, e39, e40, e46, e47, e53, e54, e56, en, k4_up, if_neg hx4, e53', up_same, up_same]
  refine ⟨by omega, h2.opn hd.1 hm (h2.bound hg hd.1), ⟨by rw [up_ne _ _ (by omega)]; exact h3.1, fun i i1 hi => ?_⟩, ⟨fun i hi => ?_, fun h => absurd h (by decide), fun _ => Or.inl rfl⟩, ?_, by omega, ?_, h2', hL⟩
  · by_cases e : i = (B 0 53).toNat
    · rw [e, up_same]
      exact hx
    · rw [up_ne _ _ e]
      exact h3.2 i i1 (by omega)
  · rw [up_ne _ _ (by omega)]
    by_cases e : i = (B 0 53 - 1).toNat
    · rw [e]
      exact hbg
    · exact h4.1 i (by omega)
  · rw [show nz (B 40) (B 0 56).toNat + (k4 (B 35) (B 0 53).toNat + 0) + 0 = nz (B 40) (B 0 56).toNat + k4 (B 35) (B 0 53).toNat + 0 by omega]
    exact h5
  · have := h6.2.1
    split at this <;> split <;> omega
theorem RI.comma {B V : St} (h : RI 1 B) (hI : IM B) (hsg : B 0 3 ≠ 0) (hk : B 35 (B 0 53 - 1).toNat = 3)
    (hE : EQ V (B 29) (B 31) (B 33) (up (B 35) (B 0 53 - 1).toNat 4) (B 37) (B 39) (B 40) (B 0 46) (B 0 47) (B 0 53) (B 0 54) (B 0 56)) (h1' : B 0 5 ≤ V 0 4) (h2' : V 0 4 ≤ V 0 5) (hL : LX V) : RI 0 V := by
  have hd := RI.deep h hI
  obtain ⟨h1, h2, h3, h4, h5, h6⟩ := h
  obtain ⟨e29, e31, e33, e35, e37, e39, e40, e46, e47, e53, e54, e56⟩ := hE
  have hlt := h6.2.2.2.1.resolve_left hsg
  have es : sA V = sA B := by unfold sA; rw [e47, e31, e29]
  have en : (B 0 53).toNat = (B 0 53 - 1).toNat + 1 := by omega
  have hk1 : k4 (up (B 35) (B 0 53 - 1).toNat 4) (B 0 53).toNat = k4 (B 35) (B 0 53).toNat + 1 := by
    rw [en, k4_up, k4_s, hk]
    simp
  have hD2 : 1 ≤ (B 0 53 - 1).toNat := by
    by_cases e : (B 0 53 - 1).toNat = 0
    · rw [e] at hk
      have := h3.1
      omega
    · omega
  unfold RI
  rw [es, e33, e35, e37, e39, e40, e46, e47, e53, e54, e56, hk1]
  refine ⟨h1, h2, ⟨by rw [up_ne _ _ (by omega)]; exact h3.1, fun i i1 hi => ?_⟩, ⟨h4.1, fun h => absurd h (by decide), fun h => absurd h (by rw [h4.2.1 rfl]; decide)⟩, ?_, by omega, ?_, h2', hL⟩
  · by_cases e : i = (B 0 53 - 1).toNat
    · rw [e, up_same]
      decide
    · rw [up_ne _ _ e]
      exact h3.2 i i1 hi
  · rw [show nz (B 40) (B 0 56).toNat + (k4 (B 35) (B 0 53).toNat + 1) + 0 = nz (B 40) (B 0 56).toNat + k4 (B 35) (B 0 53).toNat + 1 by omega]
    exact h5
  · have := h6.2.1
    split at this <;> split <;> omega
/-- a bracket is shut; x: what is coded for a pair -/
theorem RI.shut {B V : St} {r33 : Nat → Int} {c46 : Int} (h : RI 1 B) (hI : IM B) (hsg : B 0 3 ≠ 0) (hk2 : 2 ≤ B 35 (B 0 53 - 1).toNat) (hm : B 0 56 = B 39 (B 0 53 - 1).toNat)
    (hc : (B 35 (B 0 53 - 1).toNat ≠ 4 ∧ r33 = B 33 ∧ c46 = B 0 46) ∨ ∃ x : Int, B 35 (B 0 53 - 1).toNat = 4 ∧ 10 ≤ x ∧ x ≤ 21 ∧ r33 = up (B 33) (1600 * B 0 47 + B 0 46).toNat x ∧ c46 = B 0 46 + 1)
    (hE : EQ V (B 29) (B 31) r33 (B 35) (B 37) (B 39) (B 40) c46 (B 0 47) (B 0 53 - 1) (B 0 54 - 1) (B 0 56)) (h1' : B 0 5 ≤ V 0 4) (h2' : V 0 4 ≤ V 0 5) (hL : LX V) : RI 1 V := by
  have hd := RI.deep h hI
  have hg := im39 hI
  have hs := sA_0 hI
  have hm56 : (0 : Int) ≤ B 0 56 := (hI 0 56).1
  obtain ⟨h1, h2, h3, h4, h5, h6⟩ := h
  obtain ⟨e29, e31, e33, e35, e37, e39, e40, e46, e47, e53, e54, e56⟩ := hE
  have hlt := h6.2.2.2.1.resolve_left hsg
  have es : sA V = sA B := by unfold sA; rw [e47, e31, e29]
  have hD2 : 2 ≤ B 0 53 := by
    by_cases e : (B 0 53 - 1).toNat = 0
    · rw [e] at hk2
      have := h3.1
      omega
    · omega
  have en : (B 0 53).toNat = (B 0 53 - 1).toNat + 1 := by omega
  have hks := k4_s (f := B 35) (i := (B 0 53 - 1).toNat)
  rw [← en] at hks
  have n0 := nz_0 (B 40) (B 0 56).toNat
  have k0 := k4_0 (B 35) (B 0 53 - 1).toNat
  have hb1 : B 37 (B 0 53 - 1 - 1).toNat = 0 := h4.1 (B 0 53 - 1 - 1).toNat (by omega)
  unfold RI
  rw [es, e33, e35, e37, e39, e40, e46, e47, e53, e54, e56]
  have hc46 : c46 ≤ B 0 46 + 1 := by
    rcases hc with ⟨_, _, b⟩ | ⟨x, _, _, _, _, b⟩ <;> omega
  refine ⟨by omega, h2.close hg hD2 hm, ⟨h3.1, fun i i1 hi => h3.2 i i1 (by omega)⟩, ⟨fun i hi => h4.1 i (by omega), fun _ => hb1, fun h => absurd h (by rw [hb1]; decide)⟩, ?_, by omega, ?_, h2', hL⟩
  · rcases hc with ⟨a, b, d⟩ | ⟨x, a, x1, x2, b, d⟩
    · rw [if_neg a] at hks
      rw [b, d, show nz (B 40) (B 0 56).toNat + k4 (B 35) (B 0 53 - 1).toNat + 1 = nz (B 40) (B 0 56).toNat + k4 (B 35) (B 0 53).toNat + 1 by omega]
      exact h5
    · rw [if_pos a] at hks
      rw [b, d, show 1600 * B 0 47 + (B 0 46 + 1) = 1600 * B 0 47 + B 0 46 + 1 by omega]
      exact h5.add hs (Or.inr (Or.inr ⟨x1, x2, by omega, by omega⟩))
  · have := h6.2.1
    split at this <;> split <;> omega
/-- the end: nothing is left -/
theorem RI.done {B : St} (h : RI 1 B) (hI : IM B) (hk : B 35 (B 0 53 - 1).toNat < 2) (hm : B 0 56 = B 39 (B 0 53 - 1).toNat) : DP (B 33) (sA B) (1600 * B 0 47 + B 0 46) 1 := by
  have hd := RI.deep h hI
  obtain ⟨h1, h2, h3, h4, h5, h6⟩ := h
  have hD : B 0 53 = 1 := by
    by_cases e : B 0 53 = 1
    · exact e
    · have := h3.2 (B 0 53 - 1).toNat (by omega) (by omega)
      omega
  have e0 : (B 0 53 - 1).toNat = 0 := by omega
  rw [e0, h2.1] at hm
  rw [hm, hD] at h5
  have e1 : nz (B 40) (0 : Int).toNat = 0 := rfl
  have h30 := h3.1
  have e2 : k4 (B 35) (1 : Int).toNat = 0 := by
    show k4 (B 35) 0 + (if B 35 0 = 4 then 1 else 0) = 0
    rw [if_neg (by omega)]
    rfl
  rw [e1, e2] at h5
  exact h5
theorem RI.start {V : St} {k : Int} (hI : IM V) (hk : k ≤ 1) (h53 : V 0 53 = 1) (h54 : V 0 54 = 0) (h56 : V 0 56 = 0) (e35 : V 35 0 = k) (e39 : V 39 0 = 0) (e46 : 1600 * V 0 47 + V 0 46 = sA V) (hC : CB V) : RI 0 V := by
  unfold RI
  have h0 := sA_0 hI
  rw [h53, h54, h56, e46]
  have e0 : ((1 : Int) - 1).toNat = 0 := rfl
  refine ⟨by omega, ⟨e39, fun i hi => by omega, fun i hi => ?_, by rw [e0, e39]; exact Int.le_refl 0, fun j a b => absurd b (by simp), fun j hj => by omega⟩, ⟨by rw [e35]; exact hk, fun i i1 hi => by omega⟩, ⟨fun i hi => by omega, fun h => absurd h (by decide), fun _ => Or.inl (by rw [e0, e39])⟩, ⟨Int.le_refl _, ?_, fun n hn => by omega⟩, by have := hC.1; omega, ?_, hC.2.1, hC.2.2⟩
  · have : i = 0 := by omega
    subst this
    rw [e39]
    exact Int.le_refl 0
  · rw [show (sA V - sA V).toNat = 0 by omega]
    have e2 : k4 (V 35) (1 : Int).toNat = 0 := by
      show k4 (V 35) 0 + (if V 35 0 = 4 then 1 else 0) = 0
      rw [if_neg (by omega)]
      rfl
    rw [e2]
    rfl
  · have h4 : (0 : Int) ≤ V 0 4 := (hI 0 4).1
    have e1 : nz (V 40) (0 : Int).toNat = 0 := rfl
    rw [e1]
    split <;> omega
def RI0 (A : St) : Prop := RI 0 A
def RI1 (A : St) : Prop := RI 1 A
theorem LX.of {A u : St} (e1 : u 1 = A 1) (e3 : u 0 3 = A 0 3) (e4 : u 0 4 = A 0 4) (e5 : u 0 5 = A 0 5) (e7 : u 0 7 = A 0 7) (h : LX A) : LX u := by
  unfold LX
  rw [e1, e3, e4, e5, e7]
  exact h
theorem RI.same {op : Int} {B V : St} (h : RI op B) (hE : EQ V (B 29) (B 31) (B 33) (B 35) (B 37) (B 39) (B 40) (B 0 46) (B 0 47) (B 0 53) (B 0 54) (B 0 56)) (e1 : V 1 = B 1) (e3 : V 0 3 = B 0 3) (e4 : V 0 4 = B 0 4) (e5 : V 0 5 = B 0 5) (e7 : V 0 7 = B 0 7) : RI op V := by
  obtain ⟨e29, e31, e33, e35, e37, e39, e40, e46, e47, e53, e54, e56⟩ := hE
  unfold RI sA LX
  rw [e1, e3, e4, e5, e7, e29, e31, e33, e35, e37, e39, e40, e46, e47, e53, e54, e56]
  exact h
theorem RI.fr {op : Int} {M N : List Nat} {A B : St} (h : RI op A) (f : fr M N A B) (h1 : [1, 29, 31, 33, 35, 37, 39, 40].all (fun j => !M.contains j) = true) (h2 : [3, 4, 5, 7, 46, 47, 53, 54, 56].all (fun k => !N.contains k) = true) : RI op B := by
  simp only [List.all_cons, List.all_nil, Bool.and_true, Bool.and_eq_true, Bool.not_eq_true'] at h1 h2
  obtain ⟨a1, a29, a31, a33, a35, a37, a39, a40⟩ := h1
  obtain ⟨b3, b4, b5, b7, b46, b47, b53, b54, b56⟩ := h2
  exact RI.same h ⟨f.1 29 (by decide) a29, f.1 31 (by decide) a31, f.1 33 (by decide) a33, f.1 35 (by decide) a35, f.1 37 (by decide) a37, f.1 39 (by decide) a39, f.1 40 (by decide) a40, f.2 46 b46, f.2 47 b47, f.2 53 b53, f.2 54 b54, f.2 56 b56⟩ (f.1 1 (by decide) a1) (f.2 3 b3) (f.2 4 b4) (f.2 5 b5) (f.2 7 b7)
theorem RI0.fr {M N : List Nat} {A B : St} (h : RI0 A) (f : fr M N A B) (h1 : [1, 29, 31, 33, 35, 37, 39, 40].all (fun j => !M.contains j) = true) (h2 : [3, 4, 5, 7, 46, 47, 53, 54, 56].all (fun k => !N.contains k) = true) : RI0 B := RI.fr h f h1 h2
theorem RI1.fr {M N : List Nat} {A B : St} (h : RI1 A) (f : fr M N A B) (h1 : [1, 29, 31, 33, 35, 37, 39, 40].all (fun j => !M.contains j) = true) (h2 : [3, 4, 5, 7, 46, 47, 53, 54, 56].all (fun k => !N.contains k) = true) : RI1 B := RI.fr h f h1 h2
theorem RI.skip {op : Int} {B V : St} (h : RI op B) (hsg : B 0 3 ≠ 0) (hE : EQ V (B 29) (B 31) (B 33) (B 35) (B 37) (B 39) (B 40) (B 0 46) (B 0 47) (B 0 53) (B 0 54) (B 0 56)) (h1' : B 0 5 ≤ V 0 4) (h2' : V 0 4 ≤ V 0 5) (hL : LX V) : RI op V := by
  obtain ⟨h1, h2, h3, h4, h5, h6⟩ := h
  obtain ⟨e29, e31, e33, e35, e37, e39, e40, e46, e47, e53, e54, e56⟩ := hE
  have hlt := h6.2.2.2.1.resolve_left hsg
  have es : sA V = sA B := by unfold sA; rw [e47, e31, e29]
  unfold RI
  rw [es, e33, e35, e37, e39, e40, e46, e47, e53, e54, e56]
  refine ⟨h1, h2, h3, h4, h5, by omega, ?_, h2', hL⟩
  have := h6.2.1
  split at this <;> split <;> omega
theorem RI.beg {B V : St} (h : RI 0 B) (hI : IM B) (hE : EQ V (B 29) (B 31) (B 33) (B 35) (up (B 37) (B 0 53 - 1).toNat 0) (B 39) (B 40) (B 0 46) (B 0 47) (B 0 53) (B 0 54) (B 0 56)) (e1 : V 1 = B 1) (e3 : V 0 3 = B 0 3) (e4 : V 0 4 = B 0 4) (e5 : V 0 5 = B 0 5) (e7 : V 0 7 = B 0 7) : RI 0 V := by
  have hd := RI.deep h hI
  obtain ⟨h1, h2, h3, h4, h5, h6⟩ := h
  obtain ⟨e29, e31, e33, e35, e37, e39, e40, e46, e47, e53, e54, e56⟩ := hE
  have es : sA V = sA B := by unfold sA; rw [e47, e31, e29]
  unfold RI
  rw [es, e33, e35, e37, e39, e40, e46, e47, e53, e54, e56, e3, e4, e5, up_same]
  exact ⟨h1, h2, h3, ⟨fun i hi => by rw [up_ne _ _ (by omega)]; exact h4.1 i hi, fun _ => rfl, fun h => absurd h (by decide)⟩, h5, h6.1, h6.2.1, h6.2.2.1, LX.of e1 e3 e4 e5 e7 h6.2.2.2⟩
theorem RI.lx {op : Int} {A : St} (h : RI op A) : LX A := h.2.2.2.2.2.2.2.2
theorem RI.lt {op : Int} {A : St} (h : RI op A) (hs : A 0 3 ≠ 0) : A 0 4 + 1 ≤ A 0 5 := h.2.2.2.2.2.2.2.2.1.resolve_left hs
theorem RI.nn {op : Int} {A : St} (h : RI op A) (h1 : op = 1) : A 37 (A 0 53 - 1).toNat = 0 := h.2.2.2.1.2.1 h1
theorem dep_lo {f : Nat → Int} {s i : Nat} {v : Int} (h : i < s) : ∀ n, dep (up f i v) s n = dep f s n
  | 0 => rfl
  | n + 1 => by
    unfold dep
    rw [dep_lo h n, up_ne _ _ (show s + n ≠ i by omega)]
theorem wfc_out {f : Nat → Int} {s i len : Nat} {v : Int} (h : i < s ∨ s + len ≤ i) (hw : wfc f s len) : wfc (up f i v) s len := by
  rcases h with h | h
  · refine ⟨by rw [dep_lo h]; exact hw.1, fun n hn => ?_⟩
    have := hw.2 n hn
    unfold okc at this ⊢
    rw [dep_lo h, up_ne _ _ (show s + n ≠ i by omega)]
    exact this
  · refine ⟨by rw [dep_out _ h]; exact hw.1, fun n hn => ?_⟩
    rw [okc_out (by omega)]
    exact hw.2 n hn
theorem CI.add {A B : St} {x : Int} (h : CI A) (hI : IM A) (e29 : B 29 = A 29) (e31 : B 31 = A 31) (e32 : B 32 = A 32) (e33 : B 33 = up (A 33) (1600 * A 0 47 + A 0 46).toNat x) (e46 : B 0 46 = A 0 46 + 1) (e47 : B 0 47 = A 0 47) (hc : A 0 46 < 1600) : CI B := by
  unfold CI
  rw [e29, e31, e32, e33, e46, e47]
  intro b i hb hi
  obtain ⟨h1, h2, h3⟩ := h b i hb hi
  have r1 : (0 : Int) ≤ A 0 47 := (hI 0 47).1
  have r2 : A 0 47 ≤ 1 := (hI 0 47).2
  have r3 : (0 : Int) ≤ A 0 46 := (hI 0 46).1
  have r4 : (0 : Int) ≤ A 31 (6 * b + i) := (hI 31 _).1
  have r5 : A 32 (6 * b + i) ≤ 1600 := (hI 32 _).2
  refine ⟨h1, fun e => by have := h2 e; omega, wfc_out ?_ h3⟩
  by_cases e : (b : Int) = A 0 47
  · have := h2 e
    right
    omega
  · by_cases e1 : (b : Int) < A 0 47
    · right
      omega
    · left
      omega
/-! pairs: what is coded at the end of min and max -/
def PR (A : St) : Prop := ∀ i : Nat, (i : Int) < A 0 53 → A 35 i = 3 ∨ A 35 i = 4 → 10 ≤ A 38 i
theorem PR.fr {M N : List Nat} {A B : St} (h : PR A) (f : fr M N A B) (h1 : [35, 38].all (fun j => !M.contains j) = true) (h2 : [53].all (fun k => !N.contains k) = true) : PR B := by
  simp only [List.all_cons, List.all_nil, Bool.and_true, Bool.and_eq_true, Bool.not_eq_true'] at h1 h2
  unfold PR
  rw [f.1 35 (by decide) h1.1, f.1 38 (by decide) h1.2, f.2 53 h2]
  exact h
theorem PR.push {A V : St} {x : Int} (h : PR A) (hd : 0 ≤ A 0 53) (e35 : V 35 = up (A 35) (A 0 53).toNat x) (e53 : V 0 53 = A 0 53 + 1) (e38 : V 38 = A 38) (hx : x ≠ 3 ∧ x ≠ 4) : PR V := by
  unfold PR
  rw [e35, e53, e38]
  intro i hi hk
  by_cases e : i = (A 0 53).toNat
  · rw [e, up_same] at hk
    omega
  · rw [up_ne _ _ e] at hk
    exact h i (by omega) hk
theorem PR.pushp {A V : St} {x w : Int} (h : PR A) (hd : 0 ≤ A 0 53) (e35 : V 35 = up (A 35) (A 0 53).toNat x) (e53 : V 0 53 = A 0 53 + 1) (e38 : V 38 = up (A 38) (A 0 53).toNat w) (hw : 10 ≤ w) : PR V := by
  unfold PR
  rw [e35, e53, e38]
  intro i hi hk
  by_cases e : i = (A 0 53).toNat
  · rw [e, up_same]
    exact hw
  · rw [up_ne _ _ e] at hk
    rw [up_ne _ _ e]
    exact h i (by omega) hk
theorem PR.comma {A V : St} {k : Nat} (h : PR A) (hk : A 35 k = 3) (e35 : V 35 = up (A 35) k 4) (e53 : V 0 53 = A 0 53) (e38 : V 38 = A 38) : PR V := by
  unfold PR
  rw [e35, e53, e38]
  intro i hi hq
  by_cases e : i = k
  · exact h i hi (Or.inl (by rw [e]; exact hk))
  · rw [up_ne _ _ e] at hq
    exact h i hi hq
theorem PR.pop {A V : St} (h : PR A) (e35 : V 35 = A 35) (e53 : V 0 53 = A 0 53 - 1) (e38 : V 38 = A 38) : PR V := by
  unfold PR
  rw [e35, e53, e38]
  intro i hi hq
  exact h i (by omega) hq
theorem RI.two {op : Int} {A : St} (h : RI op A) (hI : IM A) (hk : 2 ≤ A 35 (A 0 53 - 1).toNat) : 2 ≤ A 0 53 := by
  have hd := RI.deep h hI
  by_cases e : (A 0 53 - 1).toNat = 0
  · rw [e] at hk
    have := h.2.2.1.1
    omega
  · omega
theorem RI.cb {op : Int} {A : St} (h : RI op A) (hI : IM A) : CB A := by
  have h56 : (0 : Int) ≤ A 0 56 := (hI 0 56).1
  have h6 := h.2.2.2.2.2
  exact ⟨by omega, h6.2.2.1, h6.2.2.2⟩
theorem RI.full {B : St} {x : Int} (h : B 0 56 = B 39 (B 0 53 - 1).toNat ∨ rk x < 1) : B 0 56 = B 39 (B 0 53 - 1).toNat := h.resolve_right (fun t => by have := (rk_r x).1; omega)
/-! operators of a frame rise; none compares where the phase is 0 -/
def sg (f : Nat → Int) (ph : Int) (a n : Nat) : Prop := (∀ j, a ≤ j → j + 1 < n → rk (f j) ≤ rk (f (j + 1))) ∧ (ph = 0 → ∀ j, a ≤ j → j < n → rk (f j) ≠ 4)
def SP (A : St) : Prop := (∀ i : Nat, (i : Int) + 1 < A 0 53 → sg (A 40) (A 36 i) (A 39 i).toNat (A 39 (i + 1)).toNat) ∧ sg (A 40) (A 36 (A 0 53 - 1).toNat) (A 39 (A 0 53 - 1).toNat).toNat (A 0 56).toNat
theorem SP.fr {M N : List Nat} {A B : St} (h : SP A) (f : fr M N A B) (h1 : [36, 39, 40].all (fun j => !M.contains j) = true) (h2 : [53, 56].all (fun k => !N.contains k) = true) : SP B := by
  simp only [List.all_cons, List.all_nil, Bool.and_true, Bool.and_eq_true, Bool.not_eq_true'] at h1 h2
  unfold SP
  rw [f.1 36 (by decide) h1.1, f.1 39 (by decide) h1.2.1, f.1 40 (by decide) h1.2.2, f.2 53 h2.1, f.2 56 h2.2]
  exact h
theorem SP.pop {A V : St} (h : SP A) (e36 : V 36 = A 36) (e39 : V 39 = A 39) (e40 : V 40 = A 40) (e53 : V 0 53 = A 0 53) (e56 : V 0 56 ≤ A 0 56) : SP V := by
  unfold SP
  rw [e36, e39, e40, e53]
  exact ⟨h.1, fun j a b => h.2.1 j a (by omega), fun p j a b => h.2.2 p j a (by omega)⟩
theorem sg_out {f : Nat → Int} {ph v : Int} {a n i : Nat} (h : sg f ph a n) (hn : n ≤ i) : sg (up f i v) ph a n := by
  refine ⟨fun j a1 b1 => ?_, fun p j a1 b1 => ?_⟩
  · rw [up_ne _ _ (by omega), up_ne _ _ (by omega)]
    exact h.1 j a1 b1
  · rw [up_ne _ _ (by omega)]
    exact h.2 p j a1 b1
theorem sg_all {f : Nat → Int} {ph : Int} {a : Nat} : ∀ n, sg f ph a n → ∀ j, a ≤ j → j < n → rk (f j) ≤ rk (f (n - 1))
  | 0, _, j, _, hj => by omega
  | n + 1, h, j, ha, hj => by
    by_cases e : j = n
    · subst e
      exact Int.le_refl _
    · have ih := sg_all n ⟨fun j a b => h.1 j a (by omega), fun p j a b => h.2 p j a (by omega)⟩ j ha (by omega)
      have h2 := h.1 (n - 1) (by omega) (by omega)
      have e2 : n - 1 + 1 = n := by omega
      rw [e2] at h2
      show rk (f j) ≤ rk (f n)
      omega
/-- x is held back; ph: the phase behind it -/
theorem SP.push {A V : St} {x ph : Int} {r36 : Nat → Int} (h : SP A) (hI : IM A) (hf : FR (A 40) (A 39) (A 0 53) (A 0 56)) (hD : 1 ≤ A 0 53) (e36 : V 36 = r36) (hr : ∀ i : Nat, (i : Int) + 1 < A 0 53 → r36 i = A 36 i) (hph : r36 (A 0 53 - 1).toNat = ph) (e39 : V 39 = A 39) (e40 : V 40 = up (A 40) (A 0 56).toNat x) (e53 : V 0 53 = A 0 53) (e56 : V 0 56 = A 0 56 + 1)
    (ht : A 0 56 = A 39 (A 0 53 - 1).toNat ∨ rk (A 40 (A 0 56 - 1).toNat) ≤ rk x) (h4 : ph = 0 → rk x ≠ 4 ∧ (A 36 (A 0 53 - 1).toNat = 0 ∨ rk x < 4)) : SP V := by
  have hg := im39 hI
  have hgD := hg (A 0 53 - 1).toNat
  have hm0 := hf.2.2.2.1
  unfold SP
  rw [e36, e39, e40, e53, e56]
  refine ⟨fun i hi => ?_, fun j a b => ?_, fun p j a b => ?_⟩
  · rw [hr i hi]
    have a1 := hf.le (i + 1) (by omega)
    exact sg_out (h.1 i hi) (by omega)
  · by_cases e : j + 1 = (A 0 56).toNat
    · rw [e, up_same, up_ne _ _ (by omega)]
      rcases ht with t | t
      · omega
      · have ej : j = (A 0 56 - 1).toNat := by omega
        rw [ej]
        exact t
    · rw [up_ne _ _ (by omega), up_ne _ _ e]
      exact h.2.1 j a (by omega)
  · have h4' := h4 (by rw [← hph]; exact p)
    by_cases e : j = (A 0 56).toNat
    · rw [e, up_same]
      exact h4'.1
    · rw [up_ne _ _ e]
      rcases h4'.2 with q | q
      · exact h.2.2 q j a (by omega)
      · rcases ht with t | t
        · omega
        · have hs := sg_all _ h.2 j a (by omega)
          have ej : (A 0 56).toNat - 1 = (A 0 56 - 1).toNat := by omega
          rw [ej] at hs
          omega
theorem SP.opn {A V : St} (h : SP A) (hI : IM A) (hD : 1 ≤ A 0 53) (e36 : V 36 = up (A 36) (A 0 53).toNat 0) (e39 : V 39 = up (A 39) (A 0 53).toNat (A 0 56)) (e40 : V 40 = A 40) (e53 : V 0 53 = A 0 53 + 1) (e56 : V 0 56 = A 0 56) : SP V := by
  have e1 : (A 0 53 + 1 - 1).toNat = (A 0 53).toNat := by omega
  unfold SP
  rw [e36, e39, e40, e53, e56, e1, up_same, up_same]
  refine ⟨fun i hi => ?_, fun j a b => by omega, fun p j a b => by omega⟩
  by_cases e : i + 1 = (A 0 53).toNat
  · have ei : i = (A 0 53 - 1).toNat := by omega
    rw [e, up_same, up_ne _ _ (by omega), up_ne _ _ (by omega), ei]
    exact h.2
  · rw [up_ne _ _ (by omega), up_ne _ _ (by omega), up_ne _ _ e]
    exact h.1 i (by omega)
theorem SP.close {A V : St} {r36 : Nat → Int} (h : SP A) (hD : 2 ≤ A 0 53) (hm : A 0 56 = A 39 (A 0 53 - 1).toNat) (e36 : V 36 = r36) (hr : ∀ i : Nat, (i : Int) + 2 < A 0 53 → r36 i = A 36 i) (hp : r36 (A 0 53 - 1 - 1).toNat = A 36 (A 0 53 - 1 - 1).toNat ∨ r36 (A 0 53 - 1 - 1).toNat = 2) (e39 : V 39 = A 39) (e40 : V 40 = A 40) (e53 : V 0 53 = A 0 53 - 1) (e56 : V 0 56 = A 0 56) : SP V := by
  have a := h.1 (A 0 53 - 1 - 1).toNat (by omega)
  have e : (A 0 53 - 1 - 1).toNat + 1 = (A 0 53 - 1).toNat := by omega
  rw [e, ← hm] at a
  unfold SP
  rw [e36, e39, e40, e53, e56]
  refine ⟨fun i hi => ?_, a.1, fun p => ?_⟩
  · rw [hr i (by omega)]
    exact h.1 i (by omega)
  · rcases hp with q | q
    · rw [q] at p
      exact a.2 p
    · rw [q] at p
      omega
/-- the last frame's phase becomes 2 -/
theorem SP.two {A V : St} (h : SP A) (hD : 1 ≤ A 0 53) (e36 : V 36 = up (A 36) (A 0 53 - 1).toNat 2) (e39 : V 39 = A 39) (e40 : V 40 = A 40) (e53 : V 0 53 = A 0 53) (e56 : V 0 56 = A 0 56) : SP V := by
  unfold SP
  rw [e36, e39, e40, e53, e56, up_same]
  refine ⟨fun i hi => ?_, h.2.1, fun p => absurd p (by decide)⟩
  rw [up_ne _ _ (by omega)]
  exact h.1 i hi
theorem SP.low {A : St} (h : SP A) (h0 : A 36 (A 0 53 - 1).toNat = 0) (hI : IM A) (hf : A 39 (A 0 53 - 1).toNat ≤ A 0 56) {k : Int} (ht : A 0 56 = A 39 (A 0 53 - 1).toNat ∨ rk (A 40 (A 0 56 - 1).toNat) < 5) : A 0 56 = A 39 (A 0 53 - 1).toNat ∨ rk (A 40 (A 0 56 - 1).toNat) < 4 := by
  have hgD := im39 hI (A 0 53 - 1).toNat
  by_cases e : A 0 56 = A 39 (A 0 53 - 1).toNat
  · exact Or.inl e
  · have a := h.2.2 h0 (A 0 56 - 1).toNat (by omega) (by omega)
    rcases ht with t | t
    · exact Or.inl t
    · right
      omega
theorem up_lo {g : Nat → Int} {D E v : Int} {i : Nat} (e : E = D) (hi : (i : Int) + 1 < E) : up g (D - 1).toNat v i = g i := by rw [up_ne _ _ (by omega)]
theorem dkX12_joins_0 : dkq cX12_joins [(0, .aload_n 0, 1), (1, .getfield 182, 3), (4, .aload_n 0, 1), (5, .getfield 170, 3), (8, .aload_n 0, 1), (9, .getfield 173, 3), (12, .iconst 1, 1), (13, .isub, 1), (14, .iaload, 1), (15, .if_icmp .le 48, 3), (18, .aload_n 0, 1), (19, .getfield 179, 3), (22, .aload_n 0, 1), (23, .getfield 182, 3), (26, .iconst 1, 1), (27, .isub, 1)] = true := by decide +kernel
theorem dkX12_joins_1 : dkq cX12_joins [(28, .iaload, 1), (29, .invokestatic 356, 3), (32, .iload_n 1, 1), (33, .if_icmp .lt 30, 3), (36, .aload_n 0, 1), (37, .dup, 1), (38, .getfield 182, 3), (41, .iconst 1, 1), (42, .isub, 1), (43, .putfield 182, 3), (46, .aload_n 0, 1), (47, .aload_n 0, 1), (48, .getfield 179, 3), (51, .aload_n 0, 1), (52, .getfield 182, 3), (55, .iaload, 1)] = true := by decide +kernel
theorem dkX12_joins_2 : dkq cX12_joins [(56, .iconst 0, 1), (57, .invokevirtual 359, 3), (60, .goto (-60), 3), (63, .return_, 1)] = true := by decide +kernel
theorem dkX12_opens_0 : dkq cX12_opens [(0, .aload_n 0, 1), (1, .getfield 176, 3), (4, .bipush 8, 2), (6, .if_icmp .ne 12, 3), (9, .aload_n 0, 1), (10, .iconst 5, 1), (11, .aload_n 0, 1), (12, .getfield 23, 3), (15, .invokevirtual 286, 3), (18, .aload_n 0, 1), (19, .getfield 36, 3), (22, .ifCond .le 4, 3), (25, .return_, 1), (26, .aload_n 0, 1), (27, .dup, 1), (28, .getfield 176, 3)] = true := by decide +kernel
theorem dkX12_opens_1 : dkq cX12_opens [(31, .iconst 1, 1), (32, .iadd, 1), (33, .putfield 176, 3), (36, .aload_n 0, 1), (37, .invokevirtual 293, 3), (40, .aload_n 0, 1), (41, .iload_n 1, 1), (42, .invokevirtual 362, 3), (45, .return_, 1)] = true := by decide +kernel
abbrev tr_r_X12_rank (x1 : Int) (A : St) (z : Int) : Prop := (((¬ x1 = 21) ∧ (((¬ x1 = 20) ∧ (((¬ x1 = 22) ∧ (((x1 = 17) ∧ (z = 4)) ∨ ((¬ x1 = 17) ∧ (((x1 = 18) ∧ (z = 4)) ∨ ((¬ x1 = 18) ∧ (((¬ x1 = 19) ∧ (((x1 = 10) ∧ (z = 5)) ∨ ((¬ x1 = 10) ∧ (((¬ x1 = 11) ∧ (z = 6)) ∨ ((x1 = 11) ∧ (z = 5)))))) ∨ ((x1 = 19) ∧ (z = 4)))))))) ∨ ((x1 = 22) ∧ (z = 3)))) ∨ ((x1 = 20) ∧ (z = 2)))) ∨ ((x1 = 21) ∧ (z = 1)))
def r_X12_rank (x1 : Int) (A : St) (z : Int) : Prop := tr_r_X12_rank x1 A z
theorem u_r_X12_rank {x1 : Int} {A : St} {z : Int} (h : tr_r_X12_rank x1 A z) : r_X12_rank x1 A z := h
def q_X12_rank (x1 : Int) (A : St) (z : Int) : Prop := r_X12_rank x1 A z ∧ (1 ≤ z ∧ z ≤ 6 ∧ z = rk x1)
def ws_mb_X12_rank : List Cond := .code yX12_rank cX12_rank 1 (some .int) :: WX
set_option maxHeartbeats 4000000 in
set_option maxRecDepth 100000 in
theorem mb_X12_rank (l : Launch) (dC : Nat → ClassId) (dI : Nat → Nat → Nat) (cB cI cJ cZ cQ : ClassId) (q : Nat → Nat) (A : St) (x1 : Int) (hI : IM A) (hx1 : (-2147483648 : Int) ≤ x1 ∧ x1 ≤ 2147483647) : XMi l yX12_rank ws_mb_X12_rank ({ frames := 0, cells := 0, slots := 0, locals := 0 } : Room) (dC, dI) (tyA cB cI cJ cZ cQ) (WM cI cJ cZ q) A [.int (iI x1)] (fun z u => A = u ∧ r_X12_rank x1 A z ∧ (1 ≤ z ∧ z ≤ 6 ∧ z = rk x1)) := by
  refine x_meti (cc := cX12_rank) (maxL := 1) WM_adr (by decide +kernel) rfl (Nat.le_of_ble_eq_true rfl) (fun p e s m below meth c Q AS ls hx hb hml hown hts hK hDD hA0 hP hS hl RET => ?_)
  have hown : s.vm.findClass RX12 = some m.cls := hown
  have hl : lv_has ls 1 [(0, .int (iI x1))] := hl
  obtain ⟨H, hHe⟩ : ∃ H : Heap, H = s.heap := ⟨_, rfl⟩
  rw [← hHe] at hP
  have hS : va_S AS s.heap H [] := by rw [hHe]; exact hS
  suffices hgo : ∀ locs : List Loc, va_S AS s.heap H locs → W p l e (headSpec ws_mb_X12_rank ({ frames := 0, cells := 0, slots := 0, locals := 0 } : Room)).room s m [.int (iI x1)].toArray below meth c H locs 0 0 Q (F0 m 0 ls []) by
    have := hgo [] hS
    rw [hHe] at this
    exact this
  clear hS hHe
  intro locs hS
  refine lv_iload_n hx hb (dk_at dkX12_rank_0 0 rfl) rfl (lv_at hl 0 rfl) ?_
  refine lv_bipush (v := iI 21) hx hb (dk_at dkX12_rank_0 1 rfl) (by decide +kernel) ?_
  refine lv_icmp_ne (tgt := 10) hx hb (dk_at dkX12_rank_0 2 rfl) (by decide) (fun c1 => ?_) (fun c1 => ?_)
  · have c1 : ¬ x1 = 21 := mt (i_eq hx1 ⟨by decide, by decide⟩).mpr c1
    refine lv_iload_n hx hb (dk_at dkX12_rank_0 5 rfl) rfl (lv_at hl 0 rfl) ?_
    refine lv_bipush (v := iI 20) hx hb (dk_at dkX12_rank_0 6 rfl) (by decide +kernel) ?_
    refine lv_icmp_ne (tgt := 20) hx hb (dk_at dkX12_rank_0 7 rfl) (by decide) (fun c2 => ?_) (fun c2 => ?_)
    · have c2 : ¬ x1 = 20 := mt (i_eq hx1 ⟨by decide, by decide⟩).mpr c2
      refine lv_iload_n hx hb (dk_at dkX12_rank_0 10 rfl) rfl (lv_at hl 0 rfl) ?_
      refine lv_bipush (v := iI 22) hx hb (dk_at dkX12_rank_0 11 rfl) (by decide +kernel) ?_
      refine lv_icmp_ne (tgt := 30) hx hb (dk_at dkX12_rank_0 12 rfl) (by decide) (fun c3 => ?_) (fun c3 => ?_)
      · have c3 : ¬ x1 = 22 := mt (i_eq hx1 ⟨by decide, by decide⟩).mpr c3
        refine lv_iload_n hx hb (dk_at dkX12_rank_0 15 rfl) rfl (lv_at hl 0 rfl) ?_
        refine lv_bipush (v := iI 17) hx hb (dk_at dkX12_rank_1 0 rfl) (by decide +kernel) ?_
        refine lv_icmp_eq (tgt := 48) hx hb (dk_at dkX12_rank_1 1 rfl) (by decide) (fun c4 => ?_) (fun c4 => ?_)
        · have c4 : x1 = 17 := (i_eq hx1 ⟨by decide, by decide⟩).mp c4
          refine lv_iconst (v := iI 4) hx hb (dk_at dkX12_rank_1 8 rfl) (by decide +kernel) ?_
          refine lv_goto (tgt := 70) hx hb (dk_at dkX12_rank_1 9 rfl) (by decide) ?_
          exact RET 4 _ _ _ _ _ ⟨rfl, (u_r_X12_rank (Or.inl ⟨c1, (Or.inl ⟨c2, (Or.inl ⟨c3, (Or.inl ⟨c4, rfl⟩)⟩)⟩)⟩)), ⟨by decide, by decide, (by unfold rk; (repeat' split) <;> omega)⟩⟩ hP hS (dk_at dkX12_rank_2 3 rfl)
        · have c4 : ¬ x1 = 17 := mt (i_eq hx1 ⟨by decide, by decide⟩).mpr c4
          refine lv_iload_n hx hb (dk_at dkX12_rank_1 2 rfl) rfl (lv_at hl 0 rfl) ?_
          refine lv_bipush (v := iI 18) hx hb (dk_at dkX12_rank_1 3 rfl) (by decide +kernel) ?_
          refine lv_icmp_eq (tgt := 48) hx hb (dk_at dkX12_rank_1 4 rfl) (by decide) (fun c5 => ?_) (fun c5 => ?_)
          · have c5 : x1 = 18 := (i_eq hx1 ⟨by decide, by decide⟩).mp c5
            refine lv_iconst (v := iI 4) hx hb (dk_at dkX12_rank_1 8 rfl) (by decide +kernel) ?_
            refine lv_goto (tgt := 70) hx hb (dk_at dkX12_rank_1 9 rfl) (by decide) ?_
            exact RET 4 _ _ _ _ _ ⟨rfl, (u_r_X12_rank (Or.inl ⟨c1, (Or.inl ⟨c2, (Or.inl ⟨c3, (Or.inr ⟨c4, (Or.inl ⟨c5, rfl⟩)⟩)⟩)⟩)⟩)), ⟨by decide, by decide, (by unfold rk; (repeat' split) <;> omega)⟩⟩ hP hS (dk_at dkX12_rank_2 3 rfl)
          · have c5 : ¬ x1 = 18 := mt (i_eq hx1 ⟨by decide, by decide⟩).mpr c5
            refine lv_iload_n hx hb (dk_at dkX12_rank_1 5 rfl) rfl (lv_at hl 0 rfl) ?_
            refine lv_bipush (v := iI 19) hx hb (dk_at dkX12_rank_1 6 rfl) (by decide +kernel) ?_
            refine lv_icmp_ne (tgt := 52) hx hb (dk_at dkX12_rank_1 7 rfl) (by decide) (fun c6 => ?_) (fun c6 => ?_)
            · have c6 : ¬ x1 = 19 := mt (i_eq hx1 ⟨by decide, by decide⟩).mpr c6
              refine lv_iload_n hx hb (dk_at dkX12_rank_1 10 rfl) rfl (lv_at hl 0 rfl) ?_
              refine lv_bipush (v := iI 10) hx hb (dk_at dkX12_rank_1 11 rfl) (by decide +kernel) ?_
              refine lv_icmp_eq (tgt := 64) hx hb (dk_at dkX12_rank_1 12 rfl) (by decide) (fun c7 => ?_) (fun c7 => ?_)
              · have c7 : x1 = 10 := (i_eq hx1 ⟨by decide, by decide⟩).mp c7
                refine lv_iconst (v := iI 5) hx hb (dk_at dkX12_rank_2 0 rfl) (by decide +kernel) ?_
                refine lv_goto (tgt := 70) hx hb (dk_at dkX12_rank_2 1 rfl) (by decide) ?_
                exact RET 5 _ _ _ _ _ ⟨rfl, (u_r_X12_rank (Or.inl ⟨c1, (Or.inl ⟨c2, (Or.inl ⟨c3, (Or.inr ⟨c4, (Or.inr ⟨c5, (Or.inl ⟨c6, (Or.inl ⟨c7, rfl⟩)⟩)⟩)⟩)⟩)⟩)⟩)), ⟨by decide, by decide, (by unfold rk; (repeat' split) <;> omega)⟩⟩ hP hS (dk_at dkX12_rank_2 3 rfl)
              · have c7 : ¬ x1 = 10 := mt (i_eq hx1 ⟨by decide, by decide⟩).mpr c7
                refine lv_iload_n hx hb (dk_at dkX12_rank_1 13 rfl) rfl (lv_at hl 0 rfl) ?_
                refine lv_bipush (v := iI 11) hx hb (dk_at dkX12_rank_1 14 rfl) (by decide +kernel) ?_
                refine lv_icmp_ne (tgt := 68) hx hb (dk_at dkX12_rank_1 15 rfl) (by decide) (fun c8 => ?_) (fun c8 => ?_)
                · have c8 : ¬ x1 = 11 := mt (i_eq hx1 ⟨by decide, by decide⟩).mpr c8
                  refine lv_bipush (v := iI 6) hx hb (dk_at dkX12_rank_2 2 rfl) (by decide +kernel) ?_
                  exact RET 6 _ _ _ _ _ ⟨rfl, (u_r_X12_rank (Or.inl ⟨c1, (Or.inl ⟨c2, (Or.inl ⟨c3, (Or.inr ⟨c4, (Or.inr ⟨c5, (Or.inl ⟨c6, (Or.inr ⟨c7, (Or.inl ⟨c8, rfl⟩)⟩)⟩)⟩)⟩)⟩)⟩)⟩)), ⟨by decide, by decide, (by unfold rk; (repeat' split) <;> omega)⟩⟩ hP hS (dk_at dkX12_rank_2 3 rfl)
                · have c8 : x1 = 11 := (i_eq hx1 ⟨by decide, by decide⟩).mp c8
                  refine lv_iconst (v := iI 5) hx hb (dk_at dkX12_rank_2 0 rfl) (by decide +kernel) ?_
                  refine lv_goto (tgt := 70) hx hb (dk_at dkX12_rank_2 1 rfl) (by decide) ?_
                  exact RET 5 _ _ _ _ _ ⟨rfl, (u_r_X12_rank (Or.inl ⟨c1, (Or.inl ⟨c2, (Or.inl ⟨c3, (Or.inr ⟨c4, (Or.inr ⟨c5, (Or.inl ⟨c6, (Or.inr ⟨c7, (Or.inr ⟨c8, rfl⟩)⟩)⟩)⟩)⟩)⟩)⟩)⟩)), ⟨by decide, by decide, (by unfold rk; (repeat' split) <;> omega)⟩⟩ hP hS (dk_at dkX12_rank_2 3 rfl)
            · have c6 : x1 = 19 := (i_eq hx1 ⟨by decide, by decide⟩).mp c6
              refine lv_iconst (v := iI 4) hx hb (dk_at dkX12_rank_1 8 rfl) (by decide +kernel) ?_
              refine lv_goto (tgt := 70) hx hb (dk_at dkX12_rank_1 9 rfl) (by decide) ?_
              exact RET 4 _ _ _ _ _ ⟨rfl, (u_r_X12_rank (Or.inl ⟨c1, (Or.inl ⟨c2, (Or.inl ⟨c3, (Or.inr ⟨c4, (Or.inr ⟨c5, (Or.inr ⟨c6, rfl⟩)⟩)⟩)⟩)⟩)⟩)), ⟨by decide, by decide, (by unfold rk; (repeat' split) <;> omega)⟩⟩ hP hS (dk_at dkX12_rank_2 3 rfl)
      · have c3 : x1 = 22 := (i_eq hx1 ⟨by decide, by decide⟩).mp c3
        refine lv_iconst (v := iI 3) hx hb (dk_at dkX12_rank_0 13 rfl) (by decide +kernel) ?_
        refine lv_goto (tgt := 70) hx hb (dk_at dkX12_rank_0 14 rfl) (by decide) ?_
        exact RET 3 _ _ _ _ _ ⟨rfl, (u_r_X12_rank (Or.inl ⟨c1, (Or.inl ⟨c2, (Or.inr ⟨c3, rfl⟩)⟩)⟩)), ⟨by decide, by decide, (by unfold rk; (repeat' split) <;> omega)⟩⟩ hP hS (dk_at dkX12_rank_2 3 rfl)
    · have c2 : x1 = 20 := (i_eq hx1 ⟨by decide, by decide⟩).mp c2
      refine lv_iconst (v := iI 2) hx hb (dk_at dkX12_rank_0 8 rfl) (by decide +kernel) ?_
      refine lv_goto (tgt := 70) hx hb (dk_at dkX12_rank_0 9 rfl) (by decide) ?_
      exact RET 2 _ _ _ _ _ ⟨rfl, (u_r_X12_rank (Or.inl ⟨c1, (Or.inr ⟨c2, rfl⟩)⟩)), ⟨by decide, by decide, (by unfold rk; (repeat' split) <;> omega)⟩⟩ hP hS (dk_at dkX12_rank_2 3 rfl)
  · have c1 : x1 = 21 := (i_eq hx1 ⟨by decide, by decide⟩).mp c1
    refine lv_iconst (v := iI 1) hx hb (dk_at dkX12_rank_0 3 rfl) (by decide +kernel) ?_
    refine lv_goto (tgt := 70) hx hb (dk_at dkX12_rank_0 4 rfl) (by decide) ?_
    exact RET 1 _ _ _ _ _ ⟨rfl, (u_r_X12_rank (Or.inr ⟨c1, rfl⟩)), ⟨by decide, by decide, (by unfold rk; (repeat' split) <;> omega)⟩⟩ hP hS (dk_at dkX12_rank_2 3 rfl)

abbrev tr_r_X12_add (x1 : Int) (x2 : Int) (A : St) (u : St) : Prop := (∃ A1 : St, A1 = (stA (stA (stA A 33 (1600 * (A 0 47) + (A 0 46)).toNat x1) 34 (1600 * (A 0 47) + (A 0 46)).toNat x2) 0 46 ((A 0 46) + 1)) ∧ (u = A1))
def r_X12_add (x1 : Int) (x2 : Int) (A : St) (u : St) : Prop := tr_r_X12_add x1 x2 A u
theorem u_r_X12_add {x1 : Int} {x2 : Int} {A : St} {u : St} (h : tr_r_X12_add x1 x2 A u) : r_X12_add x1 x2 A u := h
def q_X12_add (x1 : Int) (x2 : Int) (A : St) (u : St) : Prop := r_X12_add x1 x2 A u ∧ IM u ∧ fr [33, 34] [46] A u ∧ CI u ∧ (u 0 46 = A 0 46 + 1 ∧ u 33 = up (A 33) (1600 * A 0 47 + A 0 46).toNat x1)
def ws_mb_X12_add : List Cond := .code yX12_add cX12_add 3 none :: WX
set_option maxHeartbeats 4000000 in
set_option maxRecDepth 100000 in
theorem mb_X12_add (l : Launch) (dC : Nat → ClassId) (dI : Nat → Nat → Nat) (cB cI cJ cZ cQ : ClassId) (q : Nat → Nat) (A : St) (x1 x2 : Int) (hI : IM A) (hx1 : (0 : Int) ≤ x1 ∧ x1 ≤ 22) (hx2 : (-2147483648 : Int) ≤ x2 ∧ x2 ≤ 2147483647) (hp0 : A 0 46 < 1600) (hcCI : CI A) : XMv l yX12_add ws_mb_X12_add ({ frames := 0, cells := 0, slots := 0, locals := 0 } : Room) (dC, dI) (tyA cB cI cJ cZ cQ) (WM cI cJ cZ q) A [.ref (q 0), .int (iI x1), .int (iI x2)] (fun u => r_X12_add x1 x2 A u ∧ IM u ∧ fr [33, 34] [46] A u ∧ CI u ∧ (u 0 46 = A 0 46 + 1 ∧ u 33 = up (A 33) (1600 * A 0 47 + A 0 46).toNat x1)) := by
  refine x_metv (cc := cX12_add) (maxL := 3) WM_adr (by decide +kernel) rfl (Nat.le_of_ble_eq_true rfl) (fun p e s m below meth c Q AS ls hx hb hml hown hts hK hDD hA0 hP hS hl RET => ?_)
  have hown : s.vm.findClass RX12 = some m.cls := hown
  have hl : lv_has ls 3 [(0, .ref (q 0)), (1, .int (iI x1)), (2, .int (iI x2))] := hl
  have hiX12 : ∀ w ∈ u_ws RX12 TX12 85, w ∈ ws_mb_X12_add := fun w h => List.mem_cons_of_mem _ (wx_lay w h)
  obtain ⟨H, hHe⟩ : ∃ H : Heap, H = s.heap := ⟨_, rfl⟩
  rw [← hHe] at hP
  have hS : va_S AS s.heap H [] := by rw [hHe]; exact hS
  suffices hgo : ∀ locs : List Loc, va_S AS s.heap H locs → W p l e (headSpec ws_mb_X12_add ({ frames := 0, cells := 0, slots := 0, locals := 0 } : Room)).room s m [.ref (q 0), .int (iI x1), .int (iI x2)].toArray below meth c H locs 0 0 Q (F0 m 0 ls []) by
    have := hgo [] hS
    rw [hHe] at this
    exact this
  clear hS hHe
  intro locs hS
  have hI0 := hI
  refine lv_aload_n hx hb (dk_at dkX12_add_0 0 rfl) rfl (lv_at hl 0 rfl) ?_
  refine va_get (D := (dC, dI)) (ci := 12) (v := .ref (q 33)) (C := RX12) (T := TX12) (N := 85) hx hb hts hiX12 hown hK hP 0 wm0 rfl 44 (by decide) (hts _ (List.mem_cons_of_mem _ wlq_1_30)) (fun _ h9 => h9) rfl (dk_at dkX12_add_0 1 rfl) ?_
  refine lv_sipush (v := iI 1600) hx hb (dk_at dkX12_add_0 2 rfl) (by decide +kernel) ?_
  refine lv_aload_n hx hb (dk_at dkX12_add_0 3 rfl) rfl (lv_at hl 0 rfl) ?_
  refine va_get (D := (dC, dI)) (ci := 12) (v := .int (iI (A 0 47))) (C := RX12) (T := TX12) (N := 85) hx hb hts hiX12 hown hK hP 0 wm0 rfl 47 (by decide) (hts _ (List.mem_cons_of_mem _ wlq_1_12)) (fun _ h9 => h9) rfl (dk_at dkX12_add_0 4 rfl) ?_
  have r_A_0_47 : (0 : Int) ≤ (A 0 47) ∧ (A 0 47) ≤ 1 := hI 0 47
  refine x_mulv (v := 1600 * (A 0 47)) hx hb (dk_at dkX12_add_0 5 rfl) (by omega) ?_
  refine lv_aload_n hx hb (dk_at dkX12_add_0 6 rfl) rfl (lv_at hl 0 rfl) ?_
  refine va_get (D := (dC, dI)) (ci := 12) (v := .int (iI (A 0 46))) (C := RX12) (T := TX12) (N := 85) hx hb hts hiX12 hown hK hP 0 wm0 rfl 46 (by decide) (hts _ (List.mem_cons_of_mem _ wlq_1_31)) (fun _ h9 => h9) rfl (dk_at dkX12_add_0 7 rfl) ?_
  have r_A_0_46 : (0 : Int) ≤ (A 0 46) ∧ (A 0 46) ≤ 1600 := hI 0 46
  refine x_addv (v := 1600 * (A 0 47) + (A 0 46)) hx hb (dk_at dkX12_add_0 8 rfl) (by omega) ?_
  refine lv_iload_n hx hb (dk_at dkX12_add_0 9 rfl) rfl (lv_at hl 1 rfl) ?_
  refine x_iast hx hb hK hP hDD hS 33 1 wm33 rfl (by omega) (by decide) (dk_at dkX12_add_0 10 rfl) ws33 (fun H locs hP hS => ?_)
  have hI := hI.st (j := 33) (i := (1600 * (A 0 47) + (A 0 46)).toNat) (v := x1) (show (0 : Int) ≤ x1 ∧ x1 ≤ 22 from (by omega))
  refine lv_aload_n hx hb (dk_at dkX12_add_0 11 rfl) rfl (lv_at hl 0 rfl) ?_
  refine va_get (D := (dC, dI)) (ci := 12) (v := .ref (q 34)) (C := RX12) (T := TX12) (N := 85) hx hb hts hiX12 hown hK hP 0 wm0 rfl 45 (by decide) (hts _ (List.mem_cons_of_mem _ wlq_1_32)) (fun _ h9 => h9) rfl (dk_at dkX12_add_0 12 rfl) ?_
  refine lv_sipush (v := iI 1600) hx hb (dk_at dkX12_add_0 13 rfl) (by decide +kernel) ?_
  refine lv_aload_n hx hb (dk_at dkX12_add_0 14 rfl) rfl (lv_at hl 0 rfl) ?_
  refine va_get (D := (dC, dI)) (ci := 12) (v := .int (iI (A 0 47))) (C := RX12) (T := TX12) (N := 85) hx hb hts hiX12 hown hK hP 0 wm0 rfl 47 (by decide) (hts _ (List.mem_cons_of_mem _ wlq_1_12)) (fun _ h9 => h9) rfl (dk_at dkX12_add_0 15 rfl) ?_
  refine x_mulv (v := 1600 * (A 0 47)) hx hb (dk_at dkX12_add_1 0 rfl) (by omega) ?_
  refine lv_aload_n hx hb (dk_at dkX12_add_1 1 rfl) rfl (lv_at hl 0 rfl) ?_
  refine va_get (D := (dC, dI)) (ci := 12) (v := .int (iI (A 0 46))) (C := RX12) (T := TX12) (N := 85) hx hb hts hiX12 hown hK hP 0 wm0 rfl 46 (by decide) (hts _ (List.mem_cons_of_mem _ wlq_1_31)) (fun _ h9 => h9) rfl (dk_at dkX12_add_1 2 rfl) ?_
  refine x_addv (v := 1600 * (A 0 47) + (A 0 46)) hx hb (dk_at dkX12_add_1 3 rfl) (by omega) ?_
  refine lv_iload_n hx hb (dk_at dkX12_add_1 4 rfl) rfl (lv_at hl 2 rfl) ?_
  refine x_iast hx hb hK hP hDD hS 34 1 wm34 rfl (by omega) (by decide) (dk_at dkX12_add_1 5 rfl) ws34 (fun H locs hP hS => ?_)
  have hI := hI.st (j := 34) (i := (1600 * (A 0 47) + (A 0 46)).toNat) (v := x2) (show (-2147483648 : Int) ≤ x2 ∧ x2 ≤ 2147483647 from (by omega))
  refine lv_aload_n hx hb (dk_at dkX12_add_1 6 rfl) rfl (lv_at hl 0 rfl) ?_
  refine lv_dup hx hb (dk_at dkX12_add_1 7 rfl) rfl ?_
  refine va_get (D := (dC, dI)) (ci := 12) (v := .int (iI (A 0 46))) (C := RX12) (T := TX12) (N := 85) hx hb hts hiX12 hown hK hP 0 wm0 rfl 46 (by decide) (hts _ (List.mem_cons_of_mem _ wlq_1_31)) (fun _ h9 => h9) rfl (dk_at dkX12_add_1 8 rfl) ?_
  refine lv_iconst (v := iI 1) hx hb (dk_at dkX12_add_1 9 rfl) (by decide +kernel) ?_
  refine x_addv (v := (A 0 46) + 1) hx hb (dk_at dkX12_add_1 10 rfl) (by omega) ?_
  refine x_put (D := (dC, dI)) (ci := 12) (v := .int (iI ((A 0 46) + 1))) (ty := .int) (C := RX12) (T := TX12) (N := 85) hx hb hts hiX12 tyX12 tyX12_ok nmX12 hown hK hP hDD hS 0 wm0 rfl 46 (by decide) (hts _ (List.mem_cons_of_mem _ wlq_1_31)) (fun _ h9 => h9) rfl (by decide +kernel) rfl rfl (Nat.le_of_ble_eq_true rfl) (dk_at dkX12_add_1 11 rfl) (wf46 (v := (A 0 46) + 1)) (fun H locs hP hS => ?_)
  have hI := hI.st (j := 0) (i := 46) (v := (A 0 46) + 1) (show (0 : Int) ≤ (A 0 46) + 1 ∧ (A 0 46) + 1 ≤ 1600 from (by omega))
  obtain ⟨A1, hA1⟩ : ∃ A1 : St, A1 = (stA (stA (stA A 33 (1600 * (A 0 47) + (A 0 46)).toNat x1) 34 (1600 * (A 0 47) + (A 0 46)).toNat x2) 0 46 ((A 0 46) + 1)) := ⟨_, rfl⟩
  rw [← hA1] at hP hI
  have e_A1_46 : A1 0 46 = (A 0 46) + 1 := by rw [hA1]; rfl
  exact RET _ _ _ _ _ ⟨(u_r_X12_add ⟨A1, hA1, rfl⟩), hI, fr_def hA1 (fr.sf (fr.st (fr.st (fr.rf) (by decide) rfl) (by decide) rfl) rfl), (CI.add hcCI hI0 (by rw [hA1]; rfl) (by rw [hA1]; rfl) (by rw [hA1]; rfl) (x := x1) (by rw [hA1]; rfl) (by rw [hA1]; rfl) (by rw [hA1]; rfl) hp0), ⟨by omega, by rw [hA1]; rfl⟩⟩ hP hS (dk_at dkX12_add_1 12 rfl)

abbrev tr_r_X12_holdsBack (x1 : Int) (A : St) (u : St) : Prop := (∃ A1 : St, A1 = (stA (stA A 40 ((A 0 56)).toNat x1) 0 56 ((A 0 56) + 1)) ∧ (u = A1))
def r_X12_holdsBack (x1 : Int) (A : St) (u : St) : Prop := tr_r_X12_holdsBack x1 A u
theorem u_r_X12_holdsBack {x1 : Int} {A : St} {u : St} (h : tr_r_X12_holdsBack x1 A u) : r_X12_holdsBack x1 A u := h
def q_X12_holdsBack (x1 : Int) (A : St) (u : St) : Prop := r_X12_holdsBack x1 A u ∧ IM u ∧ fr [40] [56] A u ∧ (u 0 56 = A 0 56 + 1 ∧ u 40 = up (A 40) (A 0 56).toNat x1)
def ws_mb_X12_holdsBack : List Cond := .code yX12_holdsBack cX12_holdsBack 2 none :: WX
set_option maxHeartbeats 4000000 in
set_option maxRecDepth 100000 in
theorem mb_X12_holdsBack (l : Launch) (dC : Nat → ClassId) (dI : Nat → Nat → Nat) (cB cI cJ cZ cQ : ClassId) (q : Nat → Nat) (A : St) (x1 : Int) (hI : IM A) (hx1 : (0 : Int) ≤ x1 ∧ x1 ≤ 22) (hp0 : A 0 56 < 500) : XMv l yX12_holdsBack ws_mb_X12_holdsBack ({ frames := 0, cells := 0, slots := 0, locals := 0 } : Room) (dC, dI) (tyA cB cI cJ cZ cQ) (WM cI cJ cZ q) A [.ref (q 0), .int (iI x1)] (fun u => r_X12_holdsBack x1 A u ∧ IM u ∧ fr [40] [56] A u ∧ (u 0 56 = A 0 56 + 1 ∧ u 40 = up (A 40) (A 0 56).toNat x1)) := by
  refine x_metv (cc := cX12_holdsBack) (maxL := 2) WM_adr (by decide +kernel) rfl (Nat.le_of_ble_eq_true rfl) (fun p e s m below meth c Q AS ls hx hb hml hown hts hK hDD hA0 hP hS hl RET => ?_)
  have hown : s.vm.findClass RX12 = some m.cls := hown
  have hl : lv_has ls 2 [(0, .ref (q 0)), (1, .int (iI x1))] := hl
  have hiX12 : ∀ w ∈ u_ws RX12 TX12 85, w ∈ ws_mb_X12_holdsBack := fun w h => List.mem_cons_of_mem _ (wx_lay w h)
  obtain ⟨H, hHe⟩ : ∃ H : Heap, H = s.heap := ⟨_, rfl⟩
  rw [← hHe] at hP
  have hS : va_S AS s.heap H [] := by rw [hHe]; exact hS
  suffices hgo : ∀ locs : List Loc, va_S AS s.heap H locs → W p l e (headSpec ws_mb_X12_holdsBack ({ frames := 0, cells := 0, slots := 0, locals := 0 } : Room)).room s m [.ref (q 0), .int (iI x1)].toArray below meth c H locs 0 0 Q (F0 m 0 ls []) by
    have := hgo [] hS
    rw [hHe] at this
    exact this
  clear hS hHe
  intro locs hS
  refine lv_aload_n hx hb (dk_at dkX12_holdsBack_0 0 rfl) rfl (lv_at hl 0 rfl) ?_
  refine va_get (D := (dC, dI)) (ci := 12) (v := .ref (q 40)) (C := RX12) (T := TX12) (N := 85) hx hb hts hiX12 hown hK hP 0 wm0 rfl 55 (by decide) (hts _ (List.mem_cons_of_mem _ wlq_1_38)) (fun _ h9 => h9) rfl (dk_at dkX12_holdsBack_0 1 rfl) ?_
  refine lv_aload_n hx hb (dk_at dkX12_holdsBack_0 2 rfl) rfl (lv_at hl 0 rfl) ?_
  refine va_get (D := (dC, dI)) (ci := 12) (v := .int (iI (A 0 56))) (C := RX12) (T := TX12) (N := 85) hx hb hts hiX12 hown hK hP 0 wm0 rfl 56 (by decide) (hts _ (List.mem_cons_of_mem _ wlq_1_35)) (fun _ h9 => h9) rfl (dk_at dkX12_holdsBack_0 3 rfl) ?_
  have r_A_0_56 : (0 : Int) ≤ (A 0 56) ∧ (A 0 56) ≤ 500 := hI 0 56
  refine lv_iload_n hx hb (dk_at dkX12_holdsBack_0 4 rfl) rfl (lv_at hl 1 rfl) ?_
  refine x_iast hx hb hK hP hDD hS 40 1 wm40 rfl (by omega) (by decide) (dk_at dkX12_holdsBack_0 5 rfl) ws40 (fun H locs hP hS => ?_)
  have hI := hI.st (j := 40) (i := ((A 0 56)).toNat) (v := x1) (show (0 : Int) ≤ x1 ∧ x1 ≤ 22 from (by omega))
  refine lv_aload_n hx hb (dk_at dkX12_holdsBack_0 6 rfl) rfl (lv_at hl 0 rfl) ?_
  refine lv_dup hx hb (dk_at dkX12_holdsBack_0 7 rfl) rfl ?_
  refine va_get (D := (dC, dI)) (ci := 12) (v := .int (iI (A 0 56))) (C := RX12) (T := TX12) (N := 85) hx hb hts hiX12 hown hK hP 0 wm0 rfl 56 (by decide) (hts _ (List.mem_cons_of_mem _ wlq_1_35)) (fun _ h9 => h9) rfl (dk_at dkX12_holdsBack_0 8 rfl) ?_
  refine lv_iconst (v := iI 1) hx hb (dk_at dkX12_holdsBack_0 9 rfl) (by decide +kernel) ?_
  refine x_addv (v := (A 0 56) + 1) hx hb (dk_at dkX12_holdsBack_0 10 rfl) (by omega) ?_
  refine x_put (D := (dC, dI)) (ci := 12) (v := .int (iI ((A 0 56) + 1))) (ty := .int) (C := RX12) (T := TX12) (N := 85) hx hb hts hiX12 tyX12 tyX12_ok nmX12 hown hK hP hDD hS 0 wm0 rfl 56 (by decide) (hts _ (List.mem_cons_of_mem _ wlq_1_35)) (fun _ h9 => h9) rfl (by decide +kernel) rfl rfl (Nat.le_of_ble_eq_true rfl) (dk_at dkX12_holdsBack_0 11 rfl) (wf56 (v := (A 0 56) + 1)) (fun H locs hP hS => ?_)
  have hI := hI.st (j := 0) (i := 56) (v := (A 0 56) + 1) (show (0 : Int) ≤ (A 0 56) + 1 ∧ (A 0 56) + 1 ≤ 500 from (by omega))
  obtain ⟨A1, hA1⟩ : ∃ A1 : St, A1 = (stA (stA A 40 ((A 0 56)).toNat x1) 0 56 ((A 0 56) + 1)) := ⟨_, rfl⟩
  rw [← hA1] at hP hI
  have e_A1_56 : A1 0 56 = (A 0 56) + 1 := by rw [hA1]; rfl
  exact RET _ _ _ _ _ ⟨(u_r_X12_holdsBack ⟨A1, hA1, rfl⟩), hI, fr_def hA1 (fr.sf (fr.st (fr.rf) (by decide) rfl) rfl), ⟨by omega, by rw [hA1]; rfl⟩⟩ hP hS (dk_at dkX12_holdsBack_0 12 rfl)

abbrev tr_r_X12_pushes (x1 : Int) (A : St) (u : St) : Prop := (∃ A1 : St, A1 = (stA (stA (stA (stA (stA A 35 ((A 0 53)).toNat x1) 36 ((A 0 53)).toNat 0) 37 ((A 0 53)).toNat 1) 39 ((A 0 53)).toNat (A 0 56)) 0 53 ((A 0 53) + 1)) ∧ (u = A1))
def r_X12_pushes (x1 : Int) (A : St) (u : St) : Prop := tr_r_X12_pushes x1 A u
theorem u_r_X12_pushes {x1 : Int} {A : St} {u : St} (h : tr_r_X12_pushes x1 A u) : r_X12_pushes x1 A u := h
def q_X12_pushes (x1 : Int) (A : St) (u : St) : Prop := r_X12_pushes x1 A u ∧ IM u ∧ fr [35, 36, 37, 39] [53] A u ∧ (u 0 53 = A 0 53 + 1 ∧ u 35 = up (A 35) (A 0 53).toNat x1 ∧ u 37 = up (A 37) (A 0 53).toNat 1 ∧ u 39 = up (A 39) (A 0 53).toNat (A 0 56) ∧ u 36 = up (A 36) (A 0 53).toNat 0)
def ws_mb_X12_pushes : List Cond := .code yX12_pushes cX12_pushes 2 none :: WX
set_option maxHeartbeats 4000000 in
set_option maxRecDepth 100000 in
theorem mb_X12_pushes (l : Launch) (dC : Nat → ClassId) (dI : Nat → Nat → Nat) (cB cI cJ cZ cQ : ClassId) (q : Nat → Nat) (A : St) (x1 : Int) (hI : IM A) (hx1 : (0 : Int) ≤ x1 ∧ x1 ≤ 5) (hp0 : A 0 53 < 20) : XMv l yX12_pushes ws_mb_X12_pushes ({ frames := 0, cells := 0, slots := 0, locals := 0 } : Room) (dC, dI) (tyA cB cI cJ cZ cQ) (WM cI cJ cZ q) A [.ref (q 0), .int (iI x1)] (fun u => r_X12_pushes x1 A u ∧ IM u ∧ fr [35, 36, 37, 39] [53] A u ∧ (u 0 53 = A 0 53 + 1 ∧ u 35 = up (A 35) (A 0 53).toNat x1 ∧ u 37 = up (A 37) (A 0 53).toNat 1 ∧ u 39 = up (A 39) (A 0 53).toNat (A 0 56) ∧ u 36 = up (A 36) (A 0 53).toNat 0)) := by
  refine x_metv (cc := cX12_pushes) (maxL := 2) WM_adr (by decide +kernel) rfl (Nat.le_of_ble_eq_true rfl) (fun p e s m below meth c Q AS ls hx hb hml hown hts hK hDD hA0 hP hS hl RET => ?_)
  have hown : s.vm.findClass RX12 = some m.cls := hown
  have hl : lv_has ls 2 [(0, .ref (q 0)), (1, .int (iI x1))] := hl
  have hiX12 : ∀ w ∈ u_ws RX12 TX12 85, w ∈ ws_mb_X12_pushes := fun w h => List.mem_cons_of_mem _ (wx_lay w h)
  obtain ⟨H, hHe⟩ : ∃ H : Heap, H = s.heap := ⟨_, rfl⟩
  rw [← hHe] at hP
  have hS : va_S AS s.heap H [] := by rw [hHe]; exact hS
  suffices hgo : ∀ locs : List Loc, va_S AS s.heap H locs → W p l e (headSpec ws_mb_X12_pushes ({ frames := 0, cells := 0, slots := 0, locals := 0 } : Room)).room s m [.ref (q 0), .int (iI x1)].toArray below meth c H locs 0 0 Q (F0 m 0 ls []) by
    have := hgo [] hS
    rw [hHe] at this
    exact this
  clear hS hHe
  intro locs hS
  refine lv_aload_n hx hb (dk_at dkX12_pushes_0 0 rfl) rfl (lv_at hl 0 rfl) ?_
  refine va_get (D := (dC, dI)) (ci := 12) (v := .ref (q 35)) (C := RX12) (T := TX12) (N := 85) hx hb hts hiX12 hown hK hP 0 wm0 rfl 48 (by decide) (hts _ (List.mem_cons_of_mem _ wlq_1_46)) (fun _ h9 => h9) rfl (dk_at dkX12_pushes_0 1 rfl) ?_
  refine lv_aload_n hx hb (dk_at dkX12_pushes_0 2 rfl) rfl (lv_at hl 0 rfl) ?_
  refine va_get (D := (dC, dI)) (ci := 12) (v := .int (iI (A 0 53))) (C := RX12) (T := TX12) (N := 85) hx hb hts hiX12 hown hK hP 0 wm0 rfl 53 (by decide) (hts _ (List.mem_cons_of_mem _ wlq_1_37)) (fun _ h9 => h9) rfl (dk_at dkX12_pushes_0 3 rfl) ?_
  have r_A_0_53 : (0 : Int) ≤ (A 0 53) ∧ (A 0 53) ≤ 20 := hI 0 53
  refine lv_iload_n hx hb (dk_at dkX12_pushes_0 4 rfl) rfl (lv_at hl 1 rfl) ?_
  refine x_iast hx hb hK hP hDD hS 35 1 wm35 rfl (by omega) (by decide) (dk_at dkX12_pushes_0 5 rfl) ws35 (fun H locs hP hS => ?_)
  have hI := hI.st (j := 35) (i := ((A 0 53)).toNat) (v := x1) (show (0 : Int) ≤ x1 ∧ x1 ≤ 5 from (by omega))
  refine lv_aload_n hx hb (dk_at dkX12_pushes_0 6 rfl) rfl (lv_at hl 0 rfl) ?_
  refine va_get (D := (dC, dI)) (ci := 12) (v := .ref (q 36)) (C := RX12) (T := TX12) (N := 85) hx hb hts hiX12 hown hK hP 0 wm0 rfl 49 (by decide) (hts _ (List.mem_cons_of_mem _ wlq_1_47)) (fun _ h9 => h9) rfl (dk_at dkX12_pushes_0 7 rfl) ?_
  refine lv_aload_n hx hb (dk_at dkX12_pushes_0 8 rfl) rfl (lv_at hl 0 rfl) ?_
  refine va_get (D := (dC, dI)) (ci := 12) (v := .int (iI (A 0 53))) (C := RX12) (T := TX12) (N := 85) hx hb hts hiX12 hown hK hP 0 wm0 rfl 53 (by decide) (hts _ (List.mem_cons_of_mem _ wlq_1_37)) (fun _ h9 => h9) rfl (dk_at dkX12_pushes_0 9 rfl) ?_
  refine lv_iconst (v := iI 0) hx hb (dk_at dkX12_pushes_0 10 rfl) (by decide +kernel) ?_
  refine x_iast hx hb hK hP hDD hS 36 1 wm36 rfl (by omega) (by decide) (dk_at dkX12_pushes_0 11 rfl) ws36 (fun H locs hP hS => ?_)
  have hI := hI.st (j := 36) (i := ((A 0 53)).toNat) (v := 0) (show (0 : Int) ≤ 0 ∧ 0 ≤ 2 from (by omega))
  refine lv_aload_n hx hb (dk_at dkX12_pushes_0 12 rfl) rfl (lv_at hl 0 rfl) ?_
  refine va_get (D := (dC, dI)) (ci := 12) (v := .ref (q 37)) (C := RX12) (T := TX12) (N := 85) hx hb hts hiX12 hown hK hP 0 wm0 rfl 50 (by decide) (hts _ (List.mem_cons_of_mem _ wlq_1_48)) (fun _ h9 => h9) rfl (dk_at dkX12_pushes_0 13 rfl) ?_
  refine lv_aload_n hx hb (dk_at dkX12_pushes_0 14 rfl) rfl (lv_at hl 0 rfl) ?_
  refine va_get (D := (dC, dI)) (ci := 12) (v := .int (iI (A 0 53))) (C := RX12) (T := TX12) (N := 85) hx hb hts hiX12 hown hK hP 0 wm0 rfl 53 (by decide) (hts _ (List.mem_cons_of_mem _ wlq_1_37)) (fun _ h9 => h9) rfl (dk_at dkX12_pushes_0 15 rfl) ?_
  refine lv_iconst (v := iI 1) hx hb (dk_at dkX12_pushes_1 0 rfl) (by decide +kernel) ?_
  refine x_zast hx hb hK hP hDD hS 37 3 wm37 rfl (by omega) (by decide) (dk_at dkX12_pushes_1 1 rfl) (by omega) ws37 (fun H locs hP hS => ?_)
  have hI := hI.st (j := 37) (i := ((A 0 53)).toNat) (v := 1) (show (0 : Int) ≤ 1 ∧ 1 ≤ 1 from (by omega))
  refine lv_aload_n hx hb (dk_at dkX12_pushes_1 2 rfl) rfl (lv_at hl 0 rfl) ?_
  refine va_get (D := (dC, dI)) (ci := 12) (v := .ref (q 39)) (C := RX12) (T := TX12) (N := 85) hx hb hts hiX12 hown hK hP 0 wm0 rfl 52 (by decide) (hts _ (List.mem_cons_of_mem _ wlq_1_36)) (fun _ h9 => h9) rfl (dk_at dkX12_pushes_1 3 rfl) ?_
  refine lv_aload_n hx hb (dk_at dkX12_pushes_1 4 rfl) rfl (lv_at hl 0 rfl) ?_
  refine va_get (D := (dC, dI)) (ci := 12) (v := .int (iI (A 0 53))) (C := RX12) (T := TX12) (N := 85) hx hb hts hiX12 hown hK hP 0 wm0 rfl 53 (by decide) (hts _ (List.mem_cons_of_mem _ wlq_1_37)) (fun _ h9 => h9) rfl (dk_at dkX12_pushes_1 5 rfl) ?_
  refine lv_aload_n hx hb (dk_at dkX12_pushes_1 6 rfl) rfl (lv_at hl 0 rfl) ?_
  refine va_get (D := (dC, dI)) (ci := 12) (v := .int (iI (A 0 56))) (C := RX12) (T := TX12) (N := 85) hx hb hts hiX12 hown hK hP 0 wm0 rfl 56 (by decide) (hts _ (List.mem_cons_of_mem _ wlq_1_35)) (fun _ h9 => h9) rfl (dk_at dkX12_pushes_1 7 rfl) ?_
  have r_A_0_56 : (0 : Int) ≤ (A 0 56) ∧ (A 0 56) ≤ 500 := hI 0 56
  refine x_iast hx hb hK hP hDD hS 39 1 wm39 rfl (by omega) (by decide) (dk_at dkX12_pushes_1 8 rfl) ws39 (fun H locs hP hS => ?_)
  have hI := hI.st (j := 39) (i := ((A 0 53)).toNat) (v := (A 0 56)) (show (0 : Int) ≤ (A 0 56) ∧ (A 0 56) ≤ 500 from (by omega))
  refine lv_aload_n hx hb (dk_at dkX12_pushes_1 9 rfl) rfl (lv_at hl 0 rfl) ?_
  refine lv_dup hx hb (dk_at dkX12_pushes_1 10 rfl) rfl ?_
  refine va_get (D := (dC, dI)) (ci := 12) (v := .int (iI (A 0 53))) (C := RX12) (T := TX12) (N := 85) hx hb hts hiX12 hown hK hP 0 wm0 rfl 53 (by decide) (hts _ (List.mem_cons_of_mem _ wlq_1_37)) (fun _ h9 => h9) rfl (dk_at dkX12_pushes_1 11 rfl) ?_
  refine lv_iconst (v := iI 1) hx hb (dk_at dkX12_pushes_1 12 rfl) (by decide +kernel) ?_
  refine x_addv (v := (A 0 53) + 1) hx hb (dk_at dkX12_pushes_1 13 rfl) (by omega) ?_
  refine x_put (D := (dC, dI)) (ci := 12) (v := .int (iI ((A 0 53) + 1))) (ty := .int) (C := RX12) (T := TX12) (N := 85) hx hb hts hiX12 tyX12 tyX12_ok nmX12 hown hK hP hDD hS 0 wm0 rfl 53 (by decide) (hts _ (List.mem_cons_of_mem _ wlq_1_37)) (fun _ h9 => h9) rfl (by decide +kernel) rfl rfl (Nat.le_of_ble_eq_true rfl) (dk_at dkX12_pushes_1 14 rfl) (wf53 (v := (A 0 53) + 1)) (fun H locs hP hS => ?_)
  have hI := hI.st (j := 0) (i := 53) (v := (A 0 53) + 1) (show (0 : Int) ≤ (A 0 53) + 1 ∧ (A 0 53) + 1 ≤ 20 from (by omega))
  obtain ⟨A1, hA1⟩ : ∃ A1 : St, A1 = (stA (stA (stA (stA (stA A 35 ((A 0 53)).toNat x1) 36 ((A 0 53)).toNat 0) 37 ((A 0 53)).toNat 1) 39 ((A 0 53)).toNat (A 0 56)) 0 53 ((A 0 53) + 1)) := ⟨_, rfl⟩
  rw [← hA1] at hP hI
  have e_A1_53 : A1 0 53 = (A 0 53) + 1 := by rw [hA1]; rfl
  exact RET _ _ _ _ _ ⟨(u_r_X12_pushes ⟨A1, hA1, rfl⟩), hI, fr_def hA1 (fr.sf (fr.st (fr.st (fr.st (fr.st (fr.rf) (by decide) rfl) (by decide) rfl) (by decide) rfl) (by decide) rfl) rfl), ⟨by omega, by rw [hA1]; rfl, by rw [hA1]; rfl, by rw [hA1]; rfl, by rw [hA1]; rfl⟩⟩ hP hS (dk_at dkX12_pushes_1 15 rfl)

abbrev tr_d_X12_joins_1 (x1 : Int) (A : St) (u : St) (K1 : St → Prop) (A2 : St) : Prop := ((IM A2) ∧ (∃ z10 : Int, z10 = A2 39 ((A 0 53) - 1).toNat ∧ ((((A2 0 56) ≤ z10) ∧ (u = A2)) ∨ ((¬ (A2 0 56) ≤ z10) ∧ (∃ z14 : Int, z14 = A2 40 ((A2 0 56) - 1).toNat ∧ (∃ z15 : Int, q_X12_rank z14 A2 z15 ∧ (((z15 < x1) ∧ (u = A2)) ∨ ((¬ z15 < x1) ∧ (∃ z21 : Int, z21 = (stA A2 0 56 ((A2 0 56) - 1)) 40 ((A2 0 56) - 1).toNat ∧ (∃ A22 : St, A22 = (stA A2 0 56 ((A2 0 56) - 1)) ∧ (∃ A23 : St, q_X12_add z21 0 A22 A23 ∧ (K1 A23))))))))))))
def d_X12_joins_1 (x1 : Int) (A : St) (u : St) : Nat → St → Prop
  | 0, _ => False
  | nn9 + 1, A2 => tr_d_X12_joins_1 x1 A u (fun A2 => d_X12_joins_1 x1 A u nn9 A2) A2
theorem u_d_X12_joins_1 {x1 : Int} {A : St} {u : St} {nn9 : Nat} {A2 : St} (h : tr_d_X12_joins_1 x1 A u (fun A2 => d_X12_joins_1 x1 A u nn9 A2) A2) : d_X12_joins_1 x1 A u (nn9 + 1) A2 := h
abbrev tr_r_X12_joins (x1 : Int) (A : St) (u : St) : Prop := (∃ nn9 : Nat, d_X12_joins_1 x1 A u nn9 A)
def r_X12_joins (x1 : Int) (A : St) (u : St) : Prop := tr_r_X12_joins x1 A u
theorem u_r_X12_joins {x1 : Int} {A : St} {u : St} (h : tr_r_X12_joins x1 A u) : r_X12_joins x1 A u := h
def q_X12_joins (x1 : Int) (A : St) (u : St) : Prop := r_X12_joins x1 A u ∧ IM u ∧ fr [33, 34] [46, 56] A u ∧ CI u ∧ SP u ∧ (RI 1 u ∧ (u 0 56 = u 39 (u 0 53 - 1).toNat ∨ rk (u 40 (u 0 56 - 1).toNat) < x1))
def ws_mb_X12_joins : List Cond := .code yX12_joins cX12_joins 2 none :: WX
set_option maxHeartbeats 4000000 in
set_option maxRecDepth 100000 in
theorem mb_X12_joins (l : Launch) (dC : Nat → ClassId) (dI : Nat → Nat → Nat) (cB cI cJ cZ cQ : ClassId) (q : Nat → Nat) (A : St) (x1 : Int) (hI : IM A) (hx1 : (1 : Int) ≤ x1 ∧ x1 ≤ 6) (hp0 : RI 1 A) (hcCI : CI A) (hcSP : SP A) : XMv l yX12_joins ws_mb_X12_joins ({ frames := 1, cells := 0, slots := 0, locals := 22 } : Room) (dC, dI) (tyA cB cI cJ cZ cQ) (WM cI cJ cZ q) A [.ref (q 0), .int (iI x1)] (fun u => r_X12_joins x1 A u ∧ IM u ∧ fr [33, 34] [46, 56] A u ∧ CI u ∧ SP u ∧ (RI 1 u ∧ (u 0 56 = u 39 (u 0 53 - 1).toNat ∨ rk (u 40 (u 0 56 - 1).toNat) < x1))) := by
  refine x_metv (cc := cX12_joins) (maxL := 2) WM_adr (by decide +kernel) rfl (Nat.le_of_ble_eq_true rfl) (fun p e s m below meth c Q AS ls hx hb hml hown hts hK hDD hA0 hP hS hl RET => ?_)
  have hown : s.vm.findClass RX12 = some m.cls := hown
  have hl : lv_has ls 2 [(0, .ref (q 0)), (1, .int (iI x1))] := hl
  have hiX12 : ∀ w ∈ u_ws RX12 TX12 85, w ∈ ws_mb_X12_joins := fun w h => List.mem_cons_of_mem _ (wx_lay w h)
  obtain ⟨H, hHe⟩ : ∃ H : Heap, H = s.heap := ⟨_, rfl⟩
  rw [← hHe] at hP
  have hS : va_S AS s.heap H [] := by rw [hHe]; exact hS
  suffices hgo : ∀ locs : List Loc, va_S AS s.heap H locs → W p l e (headSpec ws_mb_X12_joins ({ frames := 1, cells := 0, slots := 0, locals := 22 } : Room)).room s m [.ref (q 0), .int (iI x1)].toArray below meth c H locs 0 0 Q (F0 m 0 ls []) by
    have := hgo [] hS
    rw [hHe] at this
    exact this
  clear hS hHe
  intro locs hS
  have r_A_0_56 : (0 : Int) ≤ (A 0 56) ∧ (A 0 56) ≤ 500 := hI 0 56
  have L0_3 : ∀ (n5 : Nat) (A2 : St) (H : Heap) (locs : List Loc) (ls : Array Slot), (Hd (RI 1 A2)) → (CI A2) → (SP A2) → (∀ (u : St), (∃ mm1 : Nat, (d_X12_joins_1 x1 A u mm1 A2)) → r_X12_joins x1 A u) → ((A2 0 56).toNat = n5) → IM A2 → fr [33, 34] [46, 56] A A2 → va_P (dC, dI) vwCl (WM cI cJ cZ q A2) H → va_S AS s.heap H locs → lv_has ls 2 [(0, .ref (q 0)), (1, .int (iI x1))] → W p l e (headSpec ws_mb_X12_joins ({ frames := 1, cells := 0, slots := 0, locals := 22 } : Room)).room s m [.ref (q 0), .int (iI x1)].toArray below meth c H locs 0 0 Q (F0 m 0 ls []) := by
    intro n5
    induction n5 using Nat.strongRecOn with
    | ind n5 ih4 =>
      intro A2 H locs ls f6 hc7 hc8 hk1 hn5 hI hj1 hP hS hl
      have gI9 : Hd (IM A2) := Hd.mk hI
      have r_A2_0_56 : (0 : Int) ≤ (A2 0 56) ∧ (A2 0 56) ≤ 500 := hI 0 56
      have hIb := hI
      have hri := f6.out
      have hdp := RI.deep hri hIb
      have hrm := RI.room hri hIb
      have e_A2_3 : A2 0 3 = (A 0 3) := (hj1.2 3 rfl)
      have e_A2_4 : A2 0 4 = (A 0 4) := (hj1.2 4 rfl)
      have e_A2_5 : A2 0 5 = (A 0 5) := (hj1.2 5 rfl)
      have e_A2_7 : A2 0 7 = (A 0 7) := (hj1.2 7 rfl)
      have e_A2_8 : A2 0 8 = (A 0 8) := (hj1.2 8 rfl)
      have e_A2_47 : A2 0 47 = (A 0 47) := (hj1.2 47 rfl)
      have e_A2_53 : A2 0 53 = (A 0 53) := (hj1.2 53 rfl)
      have e_A2_54 : A2 0 54 = (A 0 54) := (hj1.2 54 rfl)
      have r_A_0_3 : (0 : Int) ≤ (A 0 3) ∧ (A 0 3) ≤ 3 := by rw [← e_A2_3]; exact hI 0 3
      have r_A_0_4 : (0 : Int) ≤ (A 0 4) ∧ (A 0 4) ≤ 1600 := by rw [← e_A2_4]; exact hI 0 4
      have r_A_0_5 : (0 : Int) ≤ (A 0 5) ∧ (A 0 5) ≤ 1600 := by rw [← e_A2_5]; exact hI 0 5
      have r_A_0_7 : (-9223372036854775808 : Int) ≤ (A 0 7) ∧ (A 0 7) ≤ 9223372036854775807 := by rw [← e_A2_7]; exact hI 0 7
      have r_A_0_8 : (0 : Int) ≤ (A 0 8) ∧ (A 0 8) ≤ 5 := by rw [← e_A2_8]; exact hI 0 8
      have r_A2_0_46 : (0 : Int) ≤ (A2 0 46) ∧ (A2 0 46) ≤ 1600 := hI 0 46
      have r_A_0_47 : (0 : Int) ≤ (A 0 47) ∧ (A 0 47) ≤ 1 := by rw [← e_A2_47]; exact hI 0 47
      have r_A_0_53 : (0 : Int) ≤ (A 0 53) ∧ (A 0 53) ≤ 20 := by rw [← e_A2_53]; exact hI 0 53
      have r_A_0_54 : (0 : Int) ≤ (A 0 54) ∧ (A 0 54) ≤ 8 := by rw [← e_A2_54]; exact hI 0 54
      refine lv_aload_n hx hb (dk_at dkX12_joins_0 0 rfl) rfl (lv_at hl 0 rfl) ?_
      refine va_get (D := (dC, dI)) (ci := 12) (v := .int (iI (A2 0 56))) (C := RX12) (T := TX12) (N := 85) hx hb hts hiX12 hown hK hP 0 wm0 rfl 56 (by decide) (hts _ (List.mem_cons_of_mem _ wlq_1_35)) (fun _ h9 => h9) rfl (dk_at dkX12_joins_0 1 rfl) ?_
      refine lv_aload_n hx hb (dk_at dkX12_joins_0 2 rfl) rfl (lv_at hl 0 rfl) ?_
      refine va_get (D := (dC, dI)) (ci := 12) (v := .ref (q 39)) (C := RX12) (T := TX12) (N := 85) hx hb hts hiX12 hown hK hP 0 wm0 rfl 52 (by decide) (hts _ (List.mem_cons_of_mem _ wlq_1_36)) (fun _ h9 => h9) rfl (dk_at dkX12_joins_0 3 rfl) ?_
      refine lv_aload_n hx hb (dk_at dkX12_joins_0 4 rfl) rfl (lv_at hl 0 rfl) ?_
      refine va_get (D := (dC, dI)) (ci := 12) (v := .int (iI (A2 0 53))) (C := RX12) (T := TX12) (N := 85) hx hb hts hiX12 hown hK hP 0 wm0 rfl 53 (by decide) (hts _ (List.mem_cons_of_mem _ wlq_1_37)) (fun _ h9 => h9) rfl (dk_at dkX12_joins_0 5 rfl) ?_
      refine tp_i (y := iI (A 0 53)) (congrArg iI e_A2_53) ?_
      refine lv_iconst (v := iI 1) hx hb (dk_at dkX12_joins_0 6 rfl) (by decide +kernel) ?_
      refine x_subv (v := (A 0 53) - 1) hx hb (dk_at dkX12_joins_0 7 rfl) (by omega) ?_
      have a_A2_39 : A2 39 = A 39 := (hj1.1 39 (by decide) rfl)
      refine x_iald hx hb hK hP 39 1 wm39 rfl (by omega) (by decide) (dk_at dkX12_joins_0 8 rfl) (fun z10 hz10 => ?_)
      have rz10 : (0 : Int) ≤ z10 ∧ z10 ≤ 500 := by rw [hz10]; exact hI 39 _
      have gz10 := Hd.mk hz10
      have hz10 : z10 = A 39 ((A 0 53) - 1).toNat := hz10.trans (congrFun a_A2_39 _)
      refine lv_icmp_le (tgt := 63) hx hb (dk_at dkX12_joins_0 9 rfl) (by decide) (fun c11 => ?_) (fun c11 => ?_)
      · have c11 : (A2 0 56) ≤ z10 := (i_le (rb r_A2_0_56 (by decide) (by decide)) (rb rz10 (by decide) (by decide))).mp c11
        have ca12 : A2 39 = A 39 := (hj1.1 39 (by decide) rfl)
        have ca13 : A2 40 = A 40 := (hj1.1 40 (by decide) rfl)
        have hbs := RI.base hri
        rw [ca12, show A2 0 53 - 1 = (A 0 53) - 1 by omega] at hbs
        exact RET _ _ _ _ _ ⟨hk1 _ ⟨0 + 1, (u_d_X12_joins_1 ⟨gI9.out, ⟨z10, gz10.out, (Or.inl ⟨c11, rfl⟩)⟩⟩)⟩, hI, fr.trans (fr.rf) hj1 rfl rfl, hc7, hc8, ⟨hri, Or.inl (by rw [ca12, show A2 0 53 - 1 = (A 0 53) - 1 by omega]; omega)⟩⟩ hP hS (dk_at dkX12_joins_2 3 rfl)
      · have c11 : ¬ (A2 0 56) ≤ z10 := mt (i_le (rb r_A2_0_56 (by decide) (by decide)) (rb rz10 (by decide) (by decide))).mpr c11
        refine lv_aload_n hx hb (dk_at dkX12_joins_0 10 rfl) rfl (lv_at hl 0 rfl) ?_
        refine va_get (D := (dC, dI)) (ci := 12) (v := .ref (q 40)) (C := RX12) (T := TX12) (N := 85) hx hb hts hiX12 hown hK hP 0 wm0 rfl 55 (by decide) (hts _ (List.mem_cons_of_mem _ wlq_1_38)) (fun _ h9 => h9) rfl (dk_at dkX12_joins_0 11 rfl) ?_
        refine lv_aload_n hx hb (dk_at dkX12_joins_0 12 rfl) rfl (lv_at hl 0 rfl) ?_
        refine va_get (D := (dC, dI)) (ci := 12) (v := .int (iI (A2 0 56))) (C := RX12) (T := TX12) (N := 85) hx hb hts hiX12 hown hK hP 0 wm0 rfl 56 (by decide) (hts _ (List.mem_cons_of_mem _ wlq_1_35)) (fun _ h9 => h9) rfl (dk_at dkX12_joins_0 13 rfl) ?_
        refine lv_iconst (v := iI 1) hx hb (dk_at dkX12_joins_0 14 rfl) (by decide +kernel) ?_
        refine x_subv (v := (A2 0 56) - 1) hx hb (dk_at dkX12_joins_0 15 rfl) (by omega) ?_
        have a_A2_40 : A2 40 = A 40 := (hj1.1 40 (by decide) rfl)
        refine x_iald hx hb hK hP 40 1 wm40 rfl (by omega) (by decide) (dk_at dkX12_joins_1 0 rfl) (fun z14 hz14 => ?_)
        have rz14 : (0 : Int) ≤ z14 ∧ z14 ≤ 22 := by rw [hz14]; exact hI 40 _
        have gz14 := Hd.mk hz14
        have hz14 : z14 = A 40 ((A2 0 56) - 1).toNat := hz14.trans (congrFun a_A2_40 _)
        refine x_callSi (As := [.int (iI z14)]) (rest := []) ⟨hx, hb, hml, hown, hts⟩ (mb_X12_rank l dC dI cB cI cJ cZ cQ q _ z14 hI (rb rz14 (by decide) (by decide))) (va_cwS 1 hts (goodS wlq_1_39 wlq_1_40 wlq_0_8 wlq_1_33) rfl rfl rfl (by decide +kernel) ⟨Nat.le_of_ble_eq_true rfl, Nat.le_of_ble_eq_true rfl⟩) hK hDD hA0 hP hS rfl hl.1 (Nat.le_of_ble_eq_true rfl) (dk_at dkX12_joins_1 1 rfl) (fun z15 A16 H locs hw17 hP hS => ?_)
        obtain ⟨rfl, hw17⟩ := hw17
        have ghw17 : q_X12_rank z14 A2 z15 := hw17
        have hw17 := hw17.2
        refine lv_iload_n hx hb (dk_at dkX12_joins_1 2 rfl) rfl (lv_at hl 1 rfl) ?_
        refine lv_icmp_lt (tgt := 63) hx hb (dk_at dkX12_joins_1 3 rfl) (by decide) (fun c18 => ?_) (fun c18 => ?_)
        · have c18 : z15 < x1 := (i_lt (by omega) (rb hx1 (by decide) (by decide))).mp c18
          have ca19 : A2 39 = A 39 := (hj1.1 39 (by decide) rfl)
          have ca20 : A2 40 = A 40 := (hj1.1 40 (by decide) rfl)
          exact RET _ _ _ _ _ ⟨hk1 _ ⟨0 + 1, (u_d_X12_joins_1 ⟨gI9.out, ⟨z10, gz10.out, (Or.inr ⟨c11, ⟨z14, gz14.out, ⟨z15, ghw17, (Or.inl ⟨c18, rfl⟩)⟩⟩⟩)⟩⟩)⟩, hI, fr.trans (fr.rf) hj1 rfl rfl, hc7, hc8, ⟨hri, Or.inr (by rw [ca20, ← hz14]; omega)⟩⟩ hP hS (dk_at dkX12_joins_2 3 rfl)
        · have c18 : ¬ z15 < x1 := mt (i_lt (by omega) (rb hx1 (by decide) (by decide))).mpr c18
          refine lv_aload_n hx hb (dk_at dkX12_joins_1 4 rfl) rfl (lv_at hl 0 rfl) ?_
          refine lv_dup hx hb (dk_at dkX12_joins_1 5 rfl) rfl ?_
          refine va_get (D := (dC, dI)) (ci := 12) (v := .int (iI (A2 0 56))) (C := RX12) (T := TX12) (N := 85) hx hb hts hiX12 hown hK hP 0 wm0 rfl 56 (by decide) (hts _ (List.mem_cons_of_mem _ wlq_1_35)) (fun _ h9 => h9) rfl (dk_at dkX12_joins_1 6 rfl) ?_
          refine lv_iconst (v := iI 1) hx hb (dk_at dkX12_joins_1 7 rfl) (by decide +kernel) ?_
          refine x_subv (v := (A2 0 56) - 1) hx hb (dk_at dkX12_joins_1 8 rfl) (by omega) ?_
          refine x_put (D := (dC, dI)) (ci := 12) (v := .int (iI ((A2 0 56) - 1))) (ty := .int) (C := RX12) (T := TX12) (N := 85) hx hb hts hiX12 tyX12 tyX12_ok nmX12 hown hK hP hDD hS 0 wm0 rfl 56 (by decide) (hts _ (List.mem_cons_of_mem _ wlq_1_35)) (fun _ h9 => h9) rfl (by decide +kernel) rfl rfl (Nat.le_of_ble_eq_true rfl) (dk_at dkX12_joins_1 9 rfl) (wf56 (v := (A2 0 56) - 1)) (fun H locs hP hS => ?_)
          have hI := hI.st (j := 0) (i := 56) (v := (A2 0 56) - 1) (show (0 : Int) ≤ (A2 0 56) - 1 ∧ (A2 0 56) - 1 ≤ 500 from (by omega))
          refine lv_aload_n hx hb (dk_at dkX12_joins_1 10 rfl) rfl (lv_at hl 0 rfl) ?_
          refine lv_aload_n hx hb (dk_at dkX12_joins_1 11 rfl) rfl (lv_at hl 0 rfl) ?_
          refine va_get (D := (dC, dI)) (ci := 12) (v := .ref (q 40)) (C := RX12) (T := TX12) (N := 85) hx hb hts hiX12 hown hK hP 0 wm0 rfl 55 (by decide) (hts _ (List.mem_cons_of_mem _ wlq_1_38)) (fun _ h9 => h9) rfl (dk_at dkX12_joins_1 12 rfl) ?_
          refine lv_aload_n hx hb (dk_at dkX12_joins_1 13 rfl) rfl (lv_at hl 0 rfl) ?_
          refine va_get (D := (dC, dI)) (ci := 12) (v := .int (iI ((A2 0 56) - 1))) (C := RX12) (T := TX12) (N := 85) hx hb hts hiX12 hown hK hP 0 wm0 rfl 56 (by decide) (hts _ (List.mem_cons_of_mem _ wlq_1_35)) (fun _ h9 => h9) rfl (dk_at dkX12_joins_1 14 rfl) ?_
          refine x_iald hx hb hK hP 40 1 wm40 rfl (by omega) (by decide) (dk_at dkX12_joins_1 15 rfl) (fun z21 hz21 => ?_)
          have rz21 : (0 : Int) ≤ z21 ∧ z21 ≤ 22 := by rw [hz21]; exact hI 40 _
          have gz21 := Hd.mk hz21
          have hz21 : z21 = A 40 ((A2 0 56) - 1).toNat := hz21.trans (congrFun a_A2_40 _)
          have ez21 : z21 = z14 := hz21.trans hz14.symm
          refine lv_iconst (v := iI 0) hx hb (dk_at dkX12_joins_2 0 rfl) (by decide +kernel) ?_
          obtain ⟨A22, hA22⟩ : ∃ A22 : St, A22 = (stA A2 0 56 ((A2 0 56) - 1)) := ⟨_, rfl⟩
          rw [← hA22] at hP hI
          have e_A22_46 : A22 0 46 = (A2 0 46) := by rw [hA22]; exact rfl
          have e_A22_47 : A22 0 47 = (A 0 47) := by rw [hA22]; exact e_A2_47
          refine x_callv (As := [.int (iI z21), .int (iI 0)]) (rest := []) ⟨hx, hb, hml, hown, hts⟩ (mb_X12_add l dC dI cB cI cJ cZ cQ q _ z21 0 hI rz21 ⟨by decide, by decide⟩ (by omega) (CI.fr hc7 (fr_def hA22 (fr.sf (fr.rf (M := []) (N := [56])) rfl)) rfl rfl)) (cwV 2 hts (goodV wlq_1_41 wlq_1_42 wlq_1_43 wlq_0_8 wlq_1_29) rfl rfl rfl (by decide +kernel) ⟨Nat.le_of_ble_eq_true rfl, Nat.le_of_ble_eq_true rfl⟩) hK hDD hA0 hP hS 0 12 wm0 rfl rfl hl.1 (Nat.le_of_ble_eq_true rfl) (dk_at dkX12_joins_2 1 rfl) (fun A23 H locs hw24 hP hS => ?_)
          have ghw24 : q_X12_add z21 0 A22 A23 := hw24
          obtain ⟨_, hI, hf25, hw24⟩ := hw24
          obtain ⟨hc26, hw24⟩ := hw24
          have r_A23_0_46 : (0 : Int) ≤ (A23 0 46) ∧ (A23 0 46) ≤ 1600 := hI 0 46
          refine lv_goto (tgt := 0) hx hb (dk_at dkX12_joins_2 2 rfl) (by decide) ?_
          have e_A22_56 : A22 0 56 = (A2 0 56) - 1 := by rw [hA22]; rfl
          have e_A23_56 : A23 0 56 = (A2 0 56) - 1 := (hf25.2 56 rfl).trans e_A22_56
          have ca27 : A2 40 = A 40 := (hj1.1 40 (by decide) rfl)
          have ca28 : A22 33 = A2 33 := by rw [hA22]; exact rfl
          have e_A22_3 : A22 0 3 = (A 0 3) := by rw [hA22]; exact e_A2_3
          have e_A22_4 : A22 0 4 = (A 0 4) := by rw [hA22]; exact e_A2_4
          have e_A22_5 : A22 0 5 = (A 0 5) := by rw [hA22]; exact e_A2_5
          have e_A22_7 : A22 0 7 = (A 0 7) := by rw [hA22]; exact e_A2_7
          have e_A22_8 : A22 0 8 = (A 0 8) := by rw [hA22]; exact e_A2_8
          have e_A22_53 : A22 0 53 = (A 0 53) := by rw [hA22]; exact e_A2_53
          have e_A22_54 : A22 0 54 = (A 0 54) := by rw [hA22]; exact e_A2_54
          have e_A23_3 : A23 0 3 = (A 0 3) := (hf25.2 3 rfl).trans e_A22_3
          have e_A23_4 : A23 0 4 = (A 0 4) := (hf25.2 4 rfl).trans e_A22_4
          have e_A23_5 : A23 0 5 = (A 0 5) := (hf25.2 5 rfl).trans e_A22_5
          have e_A23_7 : A23 0 7 = (A 0 7) := (hf25.2 7 rfl).trans e_A22_7
          have e_A23_8 : A23 0 8 = (A 0 8) := (hf25.2 8 rfl).trans e_A22_8
          have e_A23_47 : A23 0 47 = (A 0 47) := (hf25.2 47 rfl).trans e_A22_47
          have e_A23_53 : A23 0 53 = (A 0 53) := (hf25.2 53 rfl).trans e_A22_53
          have e_A23_54 : A23 0 54 = (A 0 54) := (hf25.2 54 rfl).trans e_A22_54
          have ca29 : A22 29 = A2 29 := by rw [hA22]; exact rfl
          have ca30 : A23 29 = A2 29 := (hf25.1 29 (by decide) rfl).trans ca29
          have ca31 : A22 31 = A2 31 := by rw [hA22]; exact rfl
          have ca32 : A23 31 = A2 31 := (hf25.1 31 (by decide) rfl).trans ca31
          have ca33 : A22 35 = A2 35 := by rw [hA22]; exact rfl
          have ca34 : A23 35 = A2 35 := (hf25.1 35 (by decide) rfl).trans ca33
          have ca35 : A22 37 = A2 37 := by rw [hA22]; exact rfl
          have ca36 : A23 37 = A2 37 := (hf25.1 37 (by decide) rfl).trans ca35
          have ca37 : A22 39 = A2 39 := by rw [hA22]; exact rfl
          have ca38 : A23 39 = A2 39 := (hf25.1 39 (by decide) rfl).trans ca37
          have ca39 : A22 40 = A2 40 := by rw [hA22]; exact rfl
          have ca40 : A23 40 = A2 40 := (hf25.1 40 (by decide) rfl).trans ca39
          have ca41 : A22 1 = A2 1 := by rw [hA22]; exact rfl
          have ca42 : A23 1 = A2 1 := (hf25.1 1 (by decide) rfl).trans ca41
          have ca43 : A2 39 = A 39 := (hj1.1 39 (by decide) rfl)
          exact ih4 _ (by omega) _ _ _ _ (by exact Hd.mk (RI.pop hri hIb (by rw [ca43, show A2 0 53 - 1 = (A 0 53) - 1 by omega]; omega) ⟨ca30, ca32, (hw24.2.trans (by rw [ca28, show A22 0 47 = A2 0 47 by omega, show A22 0 46 = A2 0 46 by omega, show z21 = A2 40 (A2 0 56 - 1).toNat by rw [ca27]; exact hz21])), ca34, ca36, ca38, ca40, (by omega), (e_A23_47.trans e_A2_47.symm), (e_A23_53.trans e_A2_53.symm), (e_A23_54.trans e_A2_54.symm), (by omega)⟩ (by omega) (by omega) (by omega) (LX.of ca42 (e_A23_3.trans e_A2_3.symm) (e_A23_4.trans e_A2_4.symm) (e_A23_5.trans e_A2_5.symm) (e_A23_7.trans e_A2_7.symm) (RI.lx hri)))) hc26 (SP.fr (SP.pop hc8 (by rw [hA22]; rfl) (by rw [hA22]; rfl) (by rw [hA22]; rfl) (by rw [hA22]; rfl) (by rw [hA22, stA_same, up_same]; omega)) hf25 rfl rfl) (fun uq ⟨mm1, hq⟩ => hk1 _ ⟨mm1 + 1, (u_d_X12_joins_1 ⟨gI9.out, ⟨z10, gz10.out, (Or.inr ⟨c11, ⟨z14, gz14.out, ⟨z15, ghw17, (Or.inr ⟨c18, ⟨z21, gz21.out, ⟨A22, hA22, ⟨A23, ghw24, hq⟩⟩⟩⟩)⟩⟩⟩)⟩⟩)⟩) rfl hI (fr.trans (fr_def hA22 (fr.sf (fr.trans (fr.rf) hj1 rfl rfl) rfl)) hf25 rfl rfl) hP hS (lv_sub hl [0, 1] rfl)
  exact L0_3 _ _ _ _ _ (by exact Hd.mk hp0) hcCI hcSP (fun uq ⟨mm1, hq⟩ => (u_r_X12_joins ⟨mm1, hq⟩)) rfl hI (fr.rf) hP hS (lv_sub hl [0, 1] rfl)

abbrev tr_d_X12_opens_1 (x1 : Int) (A : St) (u : St) (A7 : St) : Prop := ((IM A7) ∧ ((((A7 0 8) ≤ 0) ∧ (∃ A11 : St, A11 = (stA A7 0 54 ((A 0 54) + 1)) ∧ (∃ A12 : St, q_X12_ahead A11 A12 ∧ (∃ A15 : St, q_X12_pushes x1 A12 A15 ∧ (u = A15))))) ∨ ((¬ (A7 0 8) ≤ 0) ∧ (u = A7))))
def d_X12_opens_1 (x1 : Int) (A : St) (u : St) (A7 : St) : Prop := tr_d_X12_opens_1 x1 A u A7
theorem u_d_X12_opens_1 {x1 : Int} {A : St} {u : St} {A7 : St} (h : tr_d_X12_opens_1 x1 A u A7) : d_X12_opens_1 x1 A u A7 := h
abbrev tr_r_X12_opens (x1 : Int) (A : St) (u : St) : Prop := (((¬ (A 0 54) = 8) ∧ (d_X12_opens_1 x1 A u A)) ∨ (((A 0 54) = 8) ∧ (∃ A3 : St, q_X12_blame 5 (A 0 4) A A3 ∧ (d_X12_opens_1 x1 A u A3))))
def r_X12_opens (x1 : Int) (A : St) (u : St) : Prop := tr_r_X12_opens x1 A u
theorem u_r_X12_opens {x1 : Int} {A : St} {u : St} (h : tr_r_X12_opens x1 A u) : r_X12_opens x1 A u := h
def q_X12_opens (x1 : Int) (A : St) (u : St) : Prop := r_X12_opens x1 A u ∧ IM u ∧ fr [35, 36, 37, 39] [3, 4, 5, 6, 7, 8, 9, 53, 54] A u ∧ (Hd (u 0 8 = 0 → RI 0 u ∧ A 0 5 ≤ u 0 4 ∧ A 0 8 = 0 ∧ u 35 = up (A 35) (A 0 53).toNat x1 ∧ u 0 53 = A 0 53 + 1 ∧ u 36 = up (A 36) (A 0 53).toNat 0 ∧ u 39 = up (A 39) (A 0 53).toNat (A 0 56)))
def ws_mb_X12_opens : List Cond := .code yX12_opens cX12_opens 2 none :: WX
set_option maxHeartbeats 4000000 in
set_option maxRecDepth 100000 in
theorem mb_X12_opens (l : Launch) (dC : Nat → ClassId) (dI : Nat → Nat → Nat) (cB cI cJ cZ cQ : ClassId) (q : Nat → Nat) (A : St) (x1 : Int) (hI : IM A) (hx1 : (2 : Int) ≤ x1 ∧ x1 ≤ 5) (hp0 : Hd (A 0 8 = 0 → RI 0 A ∧ A 0 3 ≠ 0 ∧ A 37 (A 0 53 - 1).toNat = 0)) (hp1 : x1 ≠ 4) : XMv l yX12_opens ws_mb_X12_opens ({ frames := 2, cells := 0, slots := 0, locals := 47 } : Room) (dC, dI) (tyA cB cI cJ cZ cQ) (WM cI cJ cZ q) A [.ref (q 0), .int (iI x1)] (fun u => r_X12_opens x1 A u ∧ IM u ∧ fr [35, 36, 37, 39] [3, 4, 5, 6, 7, 8, 9, 53, 54] A u ∧ (Hd (u 0 8 = 0 → RI 0 u ∧ A 0 5 ≤ u 0 4 ∧ A 0 8 = 0 ∧ u 35 = up (A 35) (A 0 53).toNat x1 ∧ u 0 53 = A 0 53 + 1 ∧ u 36 = up (A 36) (A 0 53).toNat 0 ∧ u 39 = up (A 39) (A 0 53).toNat (A 0 56)))) := by
  refine x_metv (cc := cX12_opens) (maxL := 2) WM_adr (by decide +kernel) rfl (Nat.le_of_ble_eq_true rfl) (fun p e s m below meth c Q AS ls hx hb hml hown hts hK hDD hA0 hP hS hl RET => ?_)
  have hown : s.vm.findClass RX12 = some m.cls := hown
  have hl : lv_has ls 2 [(0, .ref (q 0)), (1, .int (iI x1))] := hl
  have hiX12 : ∀ w ∈ u_ws RX12 TX12 85, w ∈ ws_mb_X12_opens := fun w h => List.mem_cons_of_mem _ (wx_lay w h)
  obtain ⟨H, hHe⟩ : ∃ H : Heap, H = s.heap := ⟨_, rfl⟩
  rw [← hHe] at hP
  have hS : va_S AS s.heap H [] := by rw [hHe]; exact hS
  suffices hgo : ∀ locs : List Loc, va_S AS s.heap H locs → W p l e (headSpec ws_mb_X12_opens ({ frames := 2, cells := 0, slots := 0, locals := 47 } : Room)).room s m [.ref (q 0), .int (iI x1)].toArray below meth c H locs 0 0 Q (F0 m 0 ls []) by
    have := hgo [] hS
    rw [hHe] at this
    exact this
  clear hS hHe
  intro locs hS
  have hI0 := hI
  refine lv_aload_n hx hb (dk_at dkX12_opens_0 0 rfl) rfl (lv_at hl 0 rfl) ?_
  refine va_get (D := (dC, dI)) (ci := 12) (v := .int (iI (A 0 54))) (C := RX12) (T := TX12) (N := 85) hx hb hts hiX12 hown hK hP 0 wm0 rfl 54 (by decide) (hts _ (List.mem_cons_of_mem _ wlq_1_50)) (fun _ h9 => h9) rfl (dk_at dkX12_opens_0 1 rfl) ?_
  have r_A_0_54 : (0 : Int) ≤ (A 0 54) ∧ (A 0 54) ≤ 8 := hI 0 54
  refine lv_bipush (v := iI 8) hx hb (dk_at dkX12_opens_0 2 rfl) (by decide +kernel) ?_
  have J18_2 : ∀ (A7 : St) (H : Heap) (locs : List Loc) (ls : Array Slot), (Hd ((A7 0 8) = 0 → (A 0 8 = 0 ∧ ¬ A 0 54 = 8))) → (∀ (u : St), (d_X12_opens_1 x1 A u A7) → r_X12_opens x1 A u) → IM A7 → fr [] [8, 9] A A7 → va_P (dC, dI) vwCl (WM cI cJ cZ q A7) H → va_S AS s.heap H locs → lv_has ls 2 [(0, .ref (q 0)), (1, .int (iI x1))] → W p l e (headSpec ws_mb_X12_opens ({ frames := 2, cells := 0, slots := 0, locals := 47 } : Room)).room s m [.ref (q 0), .int (iI x1)].toArray below meth c H locs 0 0 Q (F0 m 18 ls []) := by
    intro A7 H locs ls f8 hk1 hI hj6 hP hS hl
    have gI9 : Hd (IM A7) := Hd.mk hI
    refine lv_aload_n hx hb (dk_at dkX12_opens_0 9 rfl) rfl (lv_at hl 0 rfl) ?_
    refine va_get (D := (dC, dI)) (ci := 12) (v := .int (iI (A7 0 8))) (C := RX12) (T := TX12) (N := 85) hx hb hts hiX12 hown hK hP 0 wm0 rfl 8 (by decide) (hts _ (List.mem_cons_of_mem _ wlq_0_16)) (fun _ h9 => h9) rfl (dk_at dkX12_opens_0 10 rfl) ?_
    have r_A7_0_8 : (0 : Int) ≤ (A7 0 8) ∧ (A7 0 8) ≤ 5 := hI 0 8
    refine lv_if_le (tgt := 26) hx hb (dk_at dkX12_opens_0 11 rfl) (by decide) (fun c10 => ?_) (fun c10 => ?_)
    · have c10 : (A7 0 8) ≤ 0 := (i_le0 (rb r_A7_0_8 (by decide) (by decide))).mp c10
      have g8 := f8.out (by omega)
      have gR := hp0.out g8.1
      have hdp := RI.deep gR.1 hI0
      refine lv_aload_n hx hb (dk_at dkX12_opens_0 13 rfl) rfl (lv_at hl 0 rfl) ?_
      refine lv_dup hx hb (dk_at dkX12_opens_0 14 rfl) rfl ?_
      have e_A7_54 : A7 0 54 = (A 0 54) := (hj6.2 54 rfl)
      refine va_get (D := (dC, dI)) (ci := 12) (v := .int (iI (A7 0 54))) (C := RX12) (T := TX12) (N := 85) hx hb hts hiX12 hown hK hP 0 wm0 rfl 54 (by decide) (hts _ (List.mem_cons_of_mem _ wlq_1_50)) (fun _ h9 => h9) rfl (dk_at dkX12_opens_0 15 rfl) ?_
      refine tp_i (y := iI (A 0 54)) (congrArg iI e_A7_54) ?_
      refine lv_iconst (v := iI 1) hx hb (dk_at dkX12_opens_1 0 rfl) (by decide +kernel) ?_
      refine x_addv (v := (A 0 54) + 1) hx hb (dk_at dkX12_opens_1 1 rfl) (by omega) ?_
      refine x_put (D := (dC, dI)) (ci := 12) (v := .int (iI ((A 0 54) + 1))) (ty := .int) (C := RX12) (T := TX12) (N := 85) hx hb hts hiX12 tyX12 tyX12_ok nmX12 hown hK hP hDD hS 0 wm0 rfl 54 (by decide) (hts _ (List.mem_cons_of_mem _ wlq_1_50)) (fun _ h9 => h9) rfl (by decide +kernel) rfl rfl (Nat.le_of_ble_eq_true rfl) (dk_at dkX12_opens_1 2 rfl) (wf54 (v := (A 0 54) + 1)) (fun H locs hP hS => ?_)
      have hI := hI.st (j := 0) (i := 54) (v := (A 0 54) + 1) (show (0 : Int) ≤ (A 0 54) + 1 ∧ (A 0 54) + 1 ≤ 8 from (by omega))
      refine lv_aload_n hx hb (dk_at dkX12_opens_1 3 rfl) rfl (lv_at hl 0 rfl) ?_
      obtain ⟨A11, hA11⟩ : ∃ A11 : St, A11 = (stA A7 0 54 ((A 0 54) + 1)) := ⟨_, rfl⟩
      rw [← hA11] at hP hI
      have e_A7_4 : A7 0 4 = (A 0 4) := (hj6.2 4 rfl)
      have e_A11_4 : A11 0 4 = (A 0 4) := by rw [hA11]; exact e_A7_4
      have r_A_0_4 : (0 : Int) ≤ (A 0 4) ∧ (A 0 4) ≤ 1600 := by rw [← e_A11_4]; exact hI 0 4
      have e_A7_5 : A7 0 5 = (A 0 5) := (hj6.2 5 rfl)
      have e_A11_5 : A11 0 5 = (A 0 5) := by rw [hA11]; exact e_A7_5
      have r_A_0_5 : (0 : Int) ≤ (A 0 5) ∧ (A 0 5) ≤ 1600 := by rw [← e_A11_5]; exact hI 0 5
      have e_A11_8 : A11 0 8 = (A7 0 8) := by rw [hA11]; exact rfl
      refine x_callv (As := []) (rest := []) ⟨hx, hb, hml, hown, hts⟩ (mb_X12_ahead l dC dI cB cI cJ cZ cQ q _ hI) (cwV 0 hts (goodV wlq_0_40 wlq_0_41 wlq_0_42 wlq_0_8 wlq_0_20) rfl rfl rfl (by decide +kernel) ⟨Nat.le_of_ble_eq_true rfl, Nat.le_of_ble_eq_true rfl⟩) hK hDD hA0 hP hS 0 12 wm0 rfl rfl hl.1 (Nat.le_of_ble_eq_true rfl) (dk_at dkX12_opens_1 4 rfl) (fun A12 H locs hw13 hP hS => ?_)
      have ghw13 : q_X12_ahead A11 A12 := hw13
      obtain ⟨_, hI, hf14, hw13⟩ := hw13
      have r_A12_0_3 : (0 : Int) ≤ (A12 0 3) ∧ (A12 0 3) ≤ 3 := hI 0 3
      have r_A12_0_4 : (0 : Int) ≤ (A12 0 4) ∧ (A12 0 4) ≤ 1600 := hI 0 4
      have r_A12_0_5 : (0 : Int) ≤ (A12 0 5) ∧ (A12 0 5) ≤ 1600 := hI 0 5
      have r_A12_0_8 : (0 : Int) ≤ (A12 0 8) ∧ (A12 0 8) ≤ 5 := hI 0 8
      refine lv_aload_n hx hb (dk_at dkX12_opens_1 5 rfl) rfl (lv_at hl 0 rfl) ?_
      refine lv_iload_n hx hb (dk_at dkX12_opens_1 6 rfl) rfl (lv_at hl 1 rfl) ?_
      have e_A7_53 : A7 0 53 = (A 0 53) := (hj6.2 53 rfl)
      have e_A11_53 : A11 0 53 = (A 0 53) := by rw [hA11]; exact e_A7_53
      have e_A12_53 : A12 0 53 = (A 0 53) := (hf14.2 53 rfl).trans e_A11_53
      have r_A_0_53 : (0 : Int) ≤ (A 0 53) ∧ (A 0 53) ≤ 20 := by rw [← e_A12_53]; exact hI 0 53
      have e_A7_56 : A7 0 56 = (A 0 56) := (hj6.2 56 rfl)
      have e_A11_56 : A11 0 56 = (A 0 56) := by rw [hA11]; exact e_A7_56
      have e_A12_56 : A12 0 56 = (A 0 56) := (hf14.2 56 rfl).trans e_A11_56
      have r_A_0_56 : (0 : Int) ≤ (A 0 56) ∧ (A 0 56) ≤ 500 := by rw [← e_A12_56]; exact hI 0 56
      refine x_callv (As := [.int (iI x1)]) (rest := []) ⟨hx, hb, hml, hown, hts⟩ (mb_X12_pushes l dC dI cB cI cJ cZ cQ q _ x1 hI (rb hx1 (by decide) (by decide)) (by omega)) (cwV 1 hts (goodV wlq_1_51 wlq_1_52 wlq_1_53 wlq_0_8 wlq_1_45) rfl rfl rfl (by decide +kernel) ⟨Nat.le_of_ble_eq_true rfl, Nat.le_of_ble_eq_true rfl⟩) hK hDD hA0 hP hS 0 12 wm0 rfl rfl hl.1 (Nat.le_of_ble_eq_true rfl) (dk_at dkX12_opens_1 7 rfl) (fun A15 H locs hw16 hP hS => ?_)
      have ghw16 : q_X12_pushes x1 A12 A15 := hw16
      obtain ⟨_, hI, hf17, hw16⟩ := hw16
      have r_A15_0_53 : (0 : Int) ≤ (A15 0 53) ∧ (A15 0 53) ≤ 20 := hI 0 53
      have e_A15_4 : A15 0 4 = (A12 0 4) := (hf17.2 4 rfl)
      have e_A15_5 : A15 0 5 = (A12 0 5) := (hf17.2 5 rfl)
      have e_A15_8 : A15 0 8 = (A12 0 8) := (hf17.2 8 rfl)
      have e_A7_46 : A7 0 46 = (A 0 46) := (hj6.2 46 rfl)
      have e_A11_46 : A11 0 46 = (A 0 46) := by rw [hA11]; exact e_A7_46
      have e_A12_46 : A12 0 46 = (A 0 46) := (hf14.2 46 rfl).trans e_A11_46
      have e_A7_47 : A7 0 47 = (A 0 47) := (hj6.2 47 rfl)
      have e_A11_47 : A11 0 47 = (A 0 47) := by rw [hA11]; exact e_A7_47
      have e_A12_47 : A12 0 47 = (A 0 47) := (hf14.2 47 rfl).trans e_A11_47
      have e_A11_54 : A11 0 54 = (A 0 54) + 1 := by rw [hA11]; rfl
      have e_A12_54 : A12 0 54 = (A 0 54) + 1 := (hf14.2 54 rfl).trans e_A11_54
      have e_A15_7 : A15 0 7 = (A12 0 7) := (hf17.2 7 rfl)
      have r_A12_0_7 : (-9223372036854775808 : Int) ≤ (A12 0 7) ∧ (A12 0 7) ≤ 9223372036854775807 := by rw [← e_A15_7]; exact hI 0 7
      have e_A15_46 : A15 0 46 = (A 0 46) := (hf17.2 46 rfl).trans e_A12_46
      have r_A_0_46 : (0 : Int) ≤ (A 0 46) ∧ (A 0 46) ≤ 1600 := by rw [← e_A15_46]; exact hI 0 46
      have e_A15_47 : A15 0 47 = (A 0 47) := (hf17.2 47 rfl).trans e_A12_47
      have r_A_0_47 : (0 : Int) ≤ (A 0 47) ∧ (A 0 47) ≤ 1 := by rw [← e_A15_47]; exact hI 0 47
      have ca18 : A7 35 = A 35 := (hj6.1 35 (by decide) rfl)
      have ca19 : A11 35 = A 35 := by rw [hA11]; exact ca18
      have ca20 : A12 35 = A 35 := (hf14.1 35 (by decide) rfl).trans ca19
      have ca21 : A7 37 = A 37 := (hj6.1 37 (by decide) rfl)
      have ca22 : A11 37 = A 37 := by rw [hA11]; exact ca21
      have ca23 : A12 37 = A 37 := (hf14.1 37 (by decide) rfl).trans ca22
      have ca24 : A7 39 = A 39 := (hj6.1 39 (by decide) rfl)
      have ca25 : A11 39 = A 39 := by rw [hA11]; exact ca24
      have ca26 : A12 39 = A 39 := (hf14.1 39 (by decide) rfl).trans ca25
      have e_A15_3 : A15 0 3 = (A12 0 3) := (hf17.2 3 rfl)
      have e_A15_54 : A15 0 54 = (A 0 54) + 1 := (hf17.2 54 rfl).trans e_A12_54
      have e_A15_56 : A15 0 56 = (A 0 56) := (hf17.2 56 rfl).trans e_A12_56
      have ca27 : A7 29 = A 29 := (hj6.1 29 (by decide) rfl)
      have ca28 : A11 29 = A 29 := by rw [hA11]; exact ca27
      have ca29 : A12 29 = A 29 := (hf14.1 29 (by decide) rfl).trans ca28
      have ca30 : A15 29 = A 29 := (hf17.1 29 (by decide) rfl).trans ca29
      have ca31 : A7 31 = A 31 := (hj6.1 31 (by decide) rfl)
      have ca32 : A11 31 = A 31 := by rw [hA11]; exact ca31
      have ca33 : A12 31 = A 31 := (hf14.1 31 (by decide) rfl).trans ca32
      have ca34 : A15 31 = A 31 := (hf17.1 31 (by decide) rfl).trans ca33
      have ca35 : A7 33 = A 33 := (hj6.1 33 (by decide) rfl)
      have ca36 : A11 33 = A 33 := by rw [hA11]; exact ca35
      have ca37 : A12 33 = A 33 := (hf14.1 33 (by decide) rfl).trans ca36
      have ca38 : A15 33 = A 33 := (hf17.1 33 (by decide) rfl).trans ca37
      have ca39 : A7 40 = A 40 := (hj6.1 40 (by decide) rfl)
      have ca40 : A11 40 = A 40 := by rw [hA11]; exact ca39
      have ca41 : A12 40 = A 40 := (hf14.1 40 (by decide) rfl).trans ca40
      have ca42 : A15 40 = A 40 := (hf17.1 40 (by decide) rfl).trans ca41
      have ca43 : A15 1 = A12 1 := (hf17.1 1 (by decide) rfl)
      have ca44 : A7 35 = A 35 := (hj6.1 35 (by decide) rfl)
      have ca45 : A11 35 = A 35 := by rw [hA11]; exact ca44
      have ca46 : A12 35 = A 35 := (hf14.1 35 (by decide) rfl).trans ca45
      have ca47 : A7 36 = A 36 := (hj6.1 36 (by decide) rfl)
      have ca48 : A11 36 = A 36 := by rw [hA11]; exact ca47
      have ca49 : A12 36 = A 36 := (hf14.1 36 (by decide) rfl).trans ca48
      have ca50 : A7 39 = A 39 := (hj6.1 39 (by decide) rfl)
      have ca51 : A11 39 = A 39 := by rw [hA11]; exact ca50
      have ca52 : A12 39 = A 39 := (hf14.1 39 (by decide) rfl).trans ca51
      exact RET _ _ _ _ _ ⟨hk1 _ (u_d_X12_opens_1 ⟨gI9.out, (Or.inl ⟨c10, ⟨A11, hA11, ⟨A12, ghw13, ⟨A15, ghw16, rfl⟩⟩⟩⟩)⟩), hI, fr.trans (fr.trans (fr_def hA11 (fr.sf (fr.trans (fr.rf) hj6 rfl rfl) rfl)) hf14 rfl rfl) hf17 rfl rfl, Hd.mk (fun h0 => ⟨RI.opn (r35 := A 35) (r37 := A 37) (r39 := A 39) gR.1 hI0 gR.2.1 (by omega) hp1 gR.2.2 ⟨ca30, ca34, ca38, (hw16.2.1.trans (by rw [ca20, show A12 0 53 = A 0 53 by omega])), (hw16.2.2.1.trans (by rw [ca23, show A12 0 53 = A 0 53 by omega])), (hw16.2.2.2.1.trans (by rw [ca26, show A12 0 53 = A 0 53 by omega, show A12 0 56 = A 0 56 by omega])), ca42, e_A15_46, e_A15_47, (by omega), (by omega), e_A15_56⟩ (by omega) (by omega) (LX.of ca43 e_A15_3 e_A15_4 e_A15_5 e_A15_7 hw13.2.2.1), by omega, g8.1, (hw16.2.1.trans (by rw [ca46, show A12 0 53 = A 0 53 by omega])), by omega, (hw16.2.2.2.2.trans (by rw [ca49, show A12 0 53 = A 0 53 by omega])), (hw16.2.2.2.1.trans (by rw [ca52, show A12 0 53 = A 0 53 by omega, show A12 0 56 = A 0 56 by omega]))⟩)⟩ hP hS (dk_at dkX12_opens_1 8 rfl)
    · have c10 : ¬ (A7 0 8) ≤ 0 := mt (i_le0 (rb r_A7_0_8 (by decide) (by decide))).mpr c10
      have e_A7_4 : A7 0 4 = (A 0 4) := (hj6.2 4 rfl)
      have r_A_0_4 : (0 : Int) ≤ (A 0 4) ∧ (A 0 4) ≤ 1600 := by rw [← e_A7_4]; exact hI 0 4
      have e_A7_5 : A7 0 5 = (A 0 5) := (hj6.2 5 rfl)
      have r_A_0_5 : (0 : Int) ≤ (A 0 5) ∧ (A 0 5) ≤ 1600 := by rw [← e_A7_5]; exact hI 0 5
      have e_A7_53 : A7 0 53 = (A 0 53) := (hj6.2 53 rfl)
      have r_A_0_53 : (0 : Int) ≤ (A 0 53) ∧ (A 0 53) ≤ 20 := by rw [← e_A7_53]; exact hI 0 53
      exact RET _ _ _ _ _ ⟨hk1 _ (u_d_X12_opens_1 ⟨gI9.out, (Or.inr ⟨c10, rfl⟩)⟩), hI, fr.trans (fr.rf) hj6 rfl rfl, Hd.mk (fun h => absurd h (by omega))⟩ hP hS (dk_at dkX12_opens_0 12 rfl)
  refine lv_icmp_ne (tgt := 18) hx hb (dk_at dkX12_opens_0 3 rfl) (by decide) (fun c1 => ?_) (fun c1 => ?_)
  · have c1 : ¬ (A 0 54) = 8 := mt (i_eq (rb r_A_0_54 (by decide) (by decide)) ⟨by decide, by decide⟩).mpr c1
    have r_A_0_8 : (0 : Int) ≤ (A 0 8) ∧ (A 0 8) ≤ 5 := hI 0 8
    exact J18_2 _ _ _ _ (by exact Hd.mk (by  omega)) (fun uq hq => (u_r_X12_opens (Or.inl ⟨c1, hq⟩))) hI (fr.rf) hP hS (lv_sub hl [0, 1] rfl)
  · have c1 : (A 0 54) = 8 := (i_eq (rb r_A_0_54 (by decide) (by decide)) ⟨by decide, by decide⟩).mp c1
    refine lv_aload_n hx hb (dk_at dkX12_opens_0 4 rfl) rfl (lv_at hl 0 rfl) ?_
    refine lv_iconst (v := iI 5) hx hb (dk_at dkX12_opens_0 5 rfl) (by decide +kernel) ?_
    refine lv_aload_n hx hb (dk_at dkX12_opens_0 6 rfl) rfl (lv_at hl 0 rfl) ?_
    refine va_get (D := (dC, dI)) (ci := 12) (v := .int (iI (A 0 4))) (C := RX12) (T := TX12) (N := 85) hx hb hts hiX12 hown hK hP 0 wm0 rfl 4 (by decide) (hts _ (List.mem_cons_of_mem _ wlq_0_23)) (fun _ h9 => h9) rfl (dk_at dkX12_opens_0 7 rfl) ?_
    have r_A_0_4 : (0 : Int) ≤ (A 0 4) ∧ (A 0 4) ≤ 1600 := hI 0 4
    refine x_callv (As := [.int (iI 5), .int (iI (A 0 4))]) (rest := []) ⟨hx, hb, hml, hown, hts⟩ (mc_X12_blame l dC dI cB cI cJ cZ cQ q _ 5 (A 0 4) hI ⟨by decide, by decide⟩ r_A_0_4) (cwV 2 hts (goodV wlq_0_31 wlq_0_32 wlq_0_33 wlq_0_8 wlq_0_15) rfl rfl rfl (by decide +kernel) ⟨Nat.le_of_ble_eq_true rfl, Nat.le_of_ble_eq_true rfl⟩) hK hDD hA0 hP hS 0 12 wm0 rfl rfl hl.1 (Nat.le_of_ble_eq_true rfl) (dk_at dkX12_opens_0 8 rfl) (fun A3 H locs hw4 hP hS => ?_)
    have ghw4 : q_X12_blame 5 (A 0 4) A A3 := hw4
    obtain ⟨_, hI, hf5, hw4⟩ := hw4
    have r_A3_0_8 : (0 : Int) ≤ (A3 0 8) ∧ (A3 0 8) ≤ 5 := hI 0 8
    exact J18_2 _ _ _ _ (by exact Hd.mk (by  omega)) (fun uq hq => (u_r_X12_opens (Or.inr ⟨c1, ⟨A3, ghw4, hq⟩⟩))) hI (fr.trans (fr.rf) hf5 rfl rfl) hP hS (lv_sub hl [0, 1] rfl)
theorem dkX12_operand_0 : dkq cX12_operand [(0, .aload_n 0, 1), (1, .getfield 173, 3), (4, .iconst 1, 1), (5, .isub, 1), (6, .istore_n 1, 1), (7, .aload_n 0, 1), (8, .getfield 158, 3), (11, .iload_n 1, 1), (12, .iaload, 1), (13, .invokestatic 365, 3), (16, .ifCond .eq 16, 3), (19, .aload_n 0, 1), (20, .getfield 164, 3), (23, .iload_n 1, 1), (24, .baload, 1), (25, .ifCond .eq 7, 3)] = true := by decide +kernel
theorem dkX12_operand_1 : dkq cX12_operand [(28, .iconst 1, 1), (29, .goto 4, 3), (32, .iconst 0, 1), (33, .istore_n 2, 1), (34, .iload_n 2, 1), (35, .ifCond .eq 25, 3), (38, .aload_n 0, 1), (39, .ldc2_w 332, 3), (42, .invokevirtual 368, 3), (45, .ifCond .eq 15, 3), (48, .aload_n 0, 1), (49, .bipush 22, 2), (51, .invokevirtual 372, 3), (54, .aload_n 0, 1), (55, .invokevirtual 293, 3), (58, .iconst 0, 1)] = true := by decide +kernel
theorem dkX12_operand_2 : dkq cX12_operand [(59, .ireturn, 1), (60, .aload_n 0, 1), (61, .getfield 164, 3), (64, .iload_n 1, 1), (65, .iconst 0, 1), (66, .bastore, 1), (67, .iload_n 2, 1), (68, .ifCond .eq 19, 3), (71, .aload_n 0, 1), (72, .bipush 91, 2), (74, .invokevirtual 290, 3), (77, .ifCond .eq 10, 3), (80, .aload_n 0, 1), (81, .iconst 5, 1), (82, .invokevirtual 375, 3), (85, .iconst 0, 1)] = true := by decide +kernel
theorem dkX12_operand_3 : dkq cX12_operand [(86, .ireturn, 1), (87, .iload_n 2, 1), (88, .ifCond .eq 33, 3), (91, .aload_n 0, 1), (92, .ldc2_w 334, 3), (95, .invokevirtual 368, 3), (98, .ifCond .eq 23, 3), (101, .aload_n 0, 1), (102, .bipush 9, 2), (104, .iconst 0, 1), (105, .invokevirtual 359, 3), (108, .aload_n 0, 1), (109, .getfield 161, 3), (112, .iload_n 1, 1), (113, .iconst 2, 1), (114, .iastore, 1)] = true := by decide +kernel
theorem dkX12_operand_4 : dkq cX12_operand [(115, .aload_n 0, 1), (116, .invokevirtual 293, 3), (119, .iconst 1, 1), (120, .ireturn, 1), (121, .aload_n 0, 1), (122, .bipush 40, 2), (124, .invokevirtual 290, 3), (127, .ifCond .eq 10, 3), (130, .aload_n 0, 1), (131, .iconst 2, 1), (132, .invokevirtual 375, 3), (135, .iconst 0, 1), (136, .ireturn, 1), (137, .aload_n 0, 1), (138, .ldc2_w 344, 3), (141, .invokevirtual 368, 3)] = true := by decide +kernel
theorem dkX12_operand_5 : dkq cX12_operand [(144, .ifCond .ne 13, 3), (147, .aload_n 0, 1), (148, .ldc2_w 346, 3), (151, .invokevirtual 368, 3), (154, .ifCond .eq 69, 3), (157, .aload_n 0, 1), (158, .ldc2_w 344, 3), (161, .invokevirtual 368, 3), (164, .ifCond .eq 8, 3), (167, .bipush 15, 2), (169, .goto 5, 3), (172, .bipush 16, 2), (174, .istore_n 3, 1), (175, .aload_n 0, 1), (176, .invokevirtual 293, 3), (179, .aload_n 0, 1)] = true := by decide +kernel
theorem dkX12_operand_6 : dkq cX12_operand [(180, .bipush 40, 2), (182, .invokevirtual 290, 3), (185, .ifCond .ne 12, 3), (188, .aload_n 0, 1), (189, .iconst 1, 1), (190, .aload_n 0, 1), (191, .getfield 23, 3), (194, .invokevirtual 286, 3), (197, .aload_n 0, 1), (198, .iconst 3, 1), (199, .invokevirtual 375, 3), (202, .aload_n 0, 1), (203, .getfield 36, 3), (206, .ifCond .ne 15, 3), (209, .aload_n 0, 1), (210, .getfield 167, 3)] = true := by decide +kernel
theorem dkX12_operand_7 : dkq cX12_operand [(213, .aload_n 0, 1), (214, .getfield 173, 3), (217, .iconst 1, 1), (218, .isub, 1), (219, .iload_n 3, 1), (220, .iastore, 1), (221, .iconst 0, 1), (222, .ireturn, 1), (223, .aload_n 0, 1), (224, .getfield 20, 3), (227, .iconst 2, 1), (228, .if_icmp .ne 7, 3), (231, .iconst 0, 1), (232, .goto 60, 3), (235, .aload_n 0, 1), (236, .ldc2_w 336, 3)] = true := by decide +kernel
theorem dkX12_operand_8 : dkq cX12_operand [(239, .invokevirtual 368, 3), (242, .ifCond .eq 7, 3), (245, .iconst 1, 1), (246, .goto 46, 3), (249, .aload_n 0, 1), (250, .ldc2_w 338, 3), (253, .invokevirtual 368, 3), (256, .ifCond .eq 7, 3), (259, .iconst 2, 1), (260, .goto 32, 3), (263, .aload_n 0, 1), (264, .ldc2_w 340, 3), (267, .invokevirtual 368, 3), (270, .ifCond .eq 7, 3), (273, .iconst 3, 1), (274, .goto 18, 3)] = true := by decide +kernel
theorem dkX12_operand_9 : dkq cX12_operand [(277, .aload_n 0, 1), (278, .ldc2_w 342, 3), (281, .invokevirtual 368, 3), (284, .ifCond .eq 7, 3), (287, .iconst 4, 1), (288, .goto 4, 3), (291, .iconst (-1), 1), (292, .istore_n 3, 1), (293, .iload_n 3, 1), (294, .iconst (-1), 1), (295, .if_icmp .ne 12, 3), (298, .aload_n 0, 1), (299, .iconst 1, 1), (300, .aload_n 0, 1), (301, .getfield 23, 3), (304, .invokevirtual 286, 3)] = true := by decide +kernel
theorem dkX12_operand_10 : dkq cX12_operand [(307, .aload_n 0, 1), (308, .getfield 36, 3), (311, .ifCond .le 5, 3), (314, .iconst 1, 1), (315, .ireturn, 1), (316, .aload_n 0, 1), (317, .iload_n 3, 1), (318, .aload_n 0, 1), (319, .getfield 29, 3), (322, .invokevirtual 359, 3), (325, .aload_n 0, 1), (326, .invokevirtual 293, 3), (329, .iconst 1, 1), (330, .ireturn, 1)] = true := by decide +kernel
