/-! The class's reader of names, numbers, words and signs. -/
def wv (f : Nat → Int) (N p : Nat) : Int := w5 f (sAt f N p) (tEnd f N p - sAt f N p)
def nv (f : Nat → Int) (N p : Nat) : Int := nm10 f (sAt f N p) (tEnd f N p - sAt f N p)
def isOwn5 (w : Int) : Bool := own5L.contains w
def sName (f : Nat → Int) (N p : Nat) : Option (Int × Nat) := if tKind f N p = 1 ∧ isOwn5 (wv f N p) = false then some (wv f N p, tEnd f N p) else none
def sNum (f : Nat → Int) (N : Nat) (lo hi : Int) (p : Nat) : Option (Int × Nat) := if tKind f N p = 2 ∧ lo ≤ nv f N p ∧ nv f N p ≤ hi then some (nv f N p, tEnd f N p) else none
def sOwn (f : Nat → Int) (N k p : Nat) : Option Nat := if tKind f N p = 1 ∧ wv f N p = own5 k then some (tEnd f N p) else none
def sSign (f : Nat → Int) (N : Nat) (c : Int) (p : Nat) : Option Nat := if tKind f N p = 3 ∧ f (sAt f N p) = c then some (tEnd f N p) else none
def fnd (g : Nat → Int) (w : Int) : Nat → Nat → Int
  | 0, _ => -1
  | k + 1, i => if g i = w then (i : Int) else fnd g w k (i + 1)
def sFind (T : St) (kind : Nat) (w : Int) : Int := fnd (T (3 + kind)) w (T 1 kind).toNat 0
def tw (ta : Nat) (B : St) : St := fun j k => B (ta + j) k
theorem tw_fk {ta : Nat} (hta : isT ta) {F : List (Nat × Nat)} {B u : St} (h : fk [] F B u) (hF : F.all (fun x => decide (x.1 < 51)) = true) : tw ta u = tw ta B := by
  funext j k
  refine h (ta + j) k rfl ?_
  cases hc : fin2 F (ta + j) k with
  | false => rfl
  | true =>
    have h1 := List.all_eq_true.mp hF _ (fin2_iff.mp hc)
    have h2 : ta + j < 51 := of_decide_eq_true h1
    rcases hta with rfl | rfl <;> omega
theorem fnd_loop {g : Nat → Int} {w z c : Int} (D : Nat → Int → Prop) (h0 : ∀ i, ¬ D 0 i) (hs : ∀ n i, D (n + 1) i → (c ≤ i ∧ z = -1) ∨ (¬ c ≤ i ∧ ((¬ g i.toNat = w ∧ D n (i + 1)) ∨ (g i.toNat = w ∧ z = i)))) : ∀ n (i : Nat), D n (i : Int) → z = fnd g w (c.toNat - i) i := by
  intro n
  induction n with
  | zero => intro i h; exact absurd h (h0 _)
  | succ n ih =>
    intro i h
    rcases hs n i h with ⟨c1, h⟩ | ⟨c1, h⟩
    · rw [show c.toNat - i = 0 by omega]
      exact h
    · obtain ⟨k, hk⟩ : ∃ k, c.toNat - i = k + 1 := ⟨c.toNat - i - 1, by omega⟩
      rw [hk]
      unfold fnd
      rcases h with ⟨c2, h⟩ | ⟨c2, h⟩
      · rw [Int.toNat_natCast] at c2
        rw [if_neg c2]
        have := ih (i + 1) h
        rw [show c.toNat - (i + 1) = k by omega] at this
        exact this
      · rw [Int.toNat_natCast] at c2
        rw [if_pos c2]
        exact h
theorem F_0 {ta : Nat} {x2 : Int} {A : St} {z : Int} (h : r_X9_find_1_0 ta x2 A z) : z = sFind (tw ta A) 0 x2 := by
  obtain ⟨nn, h⟩ := (h : tr_r_X9_find_1_0 ta x2 A z)
  refine fnd_loop (c := A (ta + 1) 0) (g := A (ta + (3 + 0))) (d_X9_find_1_0_1 ta x2 A z) (fun _ h => h) (fun n i h => ?_) nn 0 h
  obtain ⟨_, z10, rfl, h⟩ := (h : tr_d_X9_find_1_0_1 ta x2 A z (fun z3 => d_X9_find_1_0_1 ta x2 A z n z3) i)
  rcases h with h | ⟨c, z13, rfl, h⟩
  · exact Or.inl h
  · exact Or.inr ⟨c, h⟩
theorem F_1 {ta : Nat} {x2 : Int} {A : St} {z : Int} (h : r_X9_find_1_1 ta x2 A z) : z = sFind (tw ta A) 1 x2 := by
  obtain ⟨nn, h⟩ := (h : tr_r_X9_find_1_1 ta x2 A z)
  refine fnd_loop (c := A (ta + 1) 1) (g := A (ta + (3 + 1))) (d_X9_find_1_1_1 ta x2 A z) (fun _ h => h) (fun n i h => ?_) nn 0 h
  obtain ⟨_, z10, rfl, h⟩ := (h : tr_d_X9_find_1_1_1 ta x2 A z (fun z3 => d_X9_find_1_1_1 ta x2 A z n z3) i)
  rcases h with h | ⟨c, z13, rfl, h⟩
  · exact Or.inl h
  · exact Or.inr ⟨c, h⟩
theorem F_2 {ta : Nat} {x2 : Int} {A : St} {z : Int} (h : r_X9_find_1_2 ta x2 A z) : z = sFind (tw ta A) 2 x2 := by
  obtain ⟨nn, h⟩ := (h : tr_r_X9_find_1_2 ta x2 A z)
  refine fnd_loop (c := A (ta + 1) 2) (g := A (ta + (3 + 2))) (d_X9_find_1_2_1 ta x2 A z) (fun _ h => h) (fun n i h => ?_) nn 0 h
  obtain ⟨_, z10, rfl, h⟩ := (h : tr_d_X9_find_1_2_1 ta x2 A z (fun z3 => d_X9_find_1_2_1 ta x2 A z n z3) i)
  rcases h with h | ⟨c, z13, rfl, h⟩
  · exact Or.inl h
  · exact Or.inr ⟨c, h⟩
theorem F_3 {ta : Nat} {x2 : Int} {A : St} {z : Int} (h : r_X9_find_1_3 ta x2 A z) : z = sFind (tw ta A) 3 x2 := by
  obtain ⟨nn, h⟩ := (h : tr_r_X9_find_1_3 ta x2 A z)
  refine fnd_loop (c := A (ta + 1) 3) (g := A (ta + (3 + 3))) (d_X9_find_1_3_1 ta x2 A z) (fun _ h => h) (fun n i h => ?_) nn 0 h
  obtain ⟨_, z10, rfl, h⟩ := (h : tr_d_X9_find_1_3_1 ta x2 A z (fun z3 => d_X9_find_1_3_1 ta x2 A z n z3) i)
  rcases h with h | ⟨c, z13, rfl, h⟩
  · exact Or.inl h
  · exact Or.inr ⟨c, h⟩
theorem F_4 {ta : Nat} {x2 : Int} {A : St} {z : Int} (h : r_X9_find_1_4 ta x2 A z) : z = sFind (tw ta A) 4 x2 := by
  obtain ⟨nn, h⟩ := (h : tr_r_X9_find_1_4 ta x2 A z)
  refine fnd_loop (c := A (ta + 1) 4) (g := A (ta + (3 + 4))) (d_X9_find_1_4_1 ta x2 A z) (fun _ h => h) (fun n i h => ?_) nn 0 h
  obtain ⟨_, z10, rfl, h⟩ := (h : tr_d_X9_find_1_4_1 ta x2 A z (fun z3 => d_X9_find_1_4_1 ta x2 A z n z3) i)
  rcases h with h | ⟨c, z13, rfl, h⟩
  · exact Or.inl h
  · exact Or.inr ⟨c, h⟩
theorem F_x {ta : Nat} {x1 x2 : Int} {A : St} {z : Int} (hx : 0 ≤ x1 ∧ x1 < 5) (h : r_X9_find ta x1 x2 A z) : z = sFind (tw ta A) x1.toNat x2 := by
  rcases (h : tr_r_X9_find ta x1 x2 A z) with ⟨c, _⟩ | ⟨_, h⟩
  · omega
  · rcases h with ⟨_, nn, h⟩ | ⟨c, _⟩
    · refine fnd_loop (c := A (ta + 1) x1.toNat) (g := A (ta + (3 + x1.toNat))) (d_X9_find_1 ta x1 x2 A z) (fun _ h => h) (fun n i h => ?_) nn 0 h
      obtain ⟨_, z10, rfl, h⟩ := (h : tr_d_X9_find_1 ta x1 x2 A z (fun z3 => d_X9_find_1 ta x1 x2 A z n z3) i)
      rcases h with h | ⟨c, z13, rfl, h⟩
      · exact Or.inl h
      · rw [Nat.add_assoc] at h
        exact Or.inr ⟨c, h⟩
    · omega
theorem isOwn5_iff {w : Int} : isOwn5 w = true ↔ ∃ k, k < 26 ∧ own5 k = w := by
  unfold isOwn5
  rw [List.contains_iff_mem, List.mem_iff_getElem]
  constructor
  · rintro ⟨k, hk, e⟩
    refine ⟨k, hk, ?_⟩
    unfold own5
    rw [List.getD_eq_getElem?_getD, List.getElem?_eq_getElem hk, e]
    rfl
  · rintro ⟨k, hk, e⟩
    have hk : k < own5L.length := hk
    refine ⟨k, hk, ?_⟩
    unfold own5 at e
    rw [List.getD_eq_getElem?_getD, List.getElem?_eq_getElem hk] at e
    exact e
theorem C_isNameAhead {f : Nat → Int} {N p : Nat} {B u : St} {z : Int} (hE : EK f N B) (hX : LXA f N p B) (h : q_X5_isNameAhead B z u) : EK f N u ∧ LX1 f N p u ∧ ((z = 1 ∧ sName f N p = some (wv f N p, tEnd f N p) ∧ tKind f N p = 1 ∧ u 5 4 = wv f N p) ∨ (z = 0 ∧ sName f N p = none)) := by
  obtain ⟨A1, hq, h⟩ := (h.1 : tr_r_X5_isNameAhead B z u)
  obtain ⟨hE1, hX1⟩ := lookA hE hX hq
  have k2 := hX1.2.2.1
  rcases h with ⟨c, nn, h⟩ | ⟨c, hz, hu⟩
  · have tk : tKind f N p = 1 := by omega
    have hv : A1 5 4 = wv f N p := hX1.2.2.2.2.1 tk
    have lp : ∀ n (i : Nat), i ≤ 26 → (∀ k, k < i → own5 k ≠ wv f N p) → d_X5_isNameAhead_1 A1 z u n (i : Int) → u = A1 ∧ ((z = 1 ∧ isOwn5 (wv f N p) = false) ∨ (z = 0 ∧ isOwn5 (wv f N p) = true)) := by
      intro n
      induction n with
      | zero => intro i _ _ h; exact h.elim
      | succ n ih =>
        intro i hi hn h
        obtain ⟨_, h⟩ := (h : tr_d_X5_isNameAhead_1 A1 z u (fun z6 => d_X5_isNameAhead_1 A1 z u n z6) i)
        rcases h with ⟨c1, hz, hu⟩ | ⟨c1, z15, hz15, h⟩
        · refine ⟨hu, Or.inl ⟨hz, ?_⟩⟩
          cases ho : isOwn5 (wv f N p) with
          | false => rfl
          | true =>
            obtain ⟨k, hk, e⟩ := isOwn5_iff.mp ho
            exact absurd e (hn k (by omega))
        · have e15 : z15 = own5 i := by
            rw [hz15, Int.toNat_natCast]
            exact hE1.2.2.2.2 i (by omega)
          rw [e15, hv] at h
          rcases h with ⟨c2, h⟩ | ⟨c2, hz, hu⟩
          · refine ih (i + 1) (by omega) (fun k hk => ?_) h
            by_cases e : k = i
            · rw [e]
              exact fun e2 => c2 e2.symm
            · exact hn k (by omega)
          · exact ⟨hu, Or.inr ⟨hz, isOwn5_iff.mpr ⟨i, by omega, c2.symm⟩⟩⟩
    obtain ⟨hu, h⟩ := lp nn 0 (by omega) (fun k hk => absurd hk (by omega)) h
    rw [hu]
    refine ⟨hE1, hX1, ?_⟩
    unfold sName
    rcases h with ⟨hz, ho⟩ | ⟨hz, ho⟩
    · rw [if_pos ⟨tk, ho⟩]
      exact Or.inl ⟨hz, rfl, tk, hv⟩
    · rw [if_neg (fun g => by rw [ho] at g; exact absurd g.2 (by decide))]
      exact Or.inr ⟨hz, rfl⟩
  · rw [hu]
    refine ⟨hE1, hX1, Or.inr ⟨hz, ?_⟩⟩
    unfold sName
    rw [if_neg (fun g => c (by omega))]
/-- what is the same behind a reader that takes nothing but tokens -/
def CS (f : Nat → Int) (N e : Nat) (u : St) : Prop := EK f N u ∧ LX0 f N e u
theorem C_bad {f : Nat → Int} {N p : Nat} {x : Int} {B u : St} {z : Int} (h : q_X5_bad x B z u) : z = 0 := h.2.2.2.2
theorem C_none {x : Int} {B u : St} {z : Int} (h : q_X5_none x B z u) : z = -1 := h.2.2.2
def sNew (f : Nat → Int) (N : Nat) (T : St) (p : Nat) : Option (Int × Nat) := match sName f N p with
  | none => none
  | some (w, e) => if sFind T 0 w = -1 ∧ sFind T 1 w = -1 ∧ sFind T 2 w = -1 ∧ sFind T 3 w = -1 ∧ sFind T 4 w = -1 then some (w, e) else none
def sAsk (f : Nat → Int) (N : Nat) (T : St) (kind p : Nat) : Option (Int × Nat) := match sName f N p with
  | none => none
  | some (w, e) => if sFind T kind w = -1 then none else some (sFind T kind w, e)
def sSpot (f : Nat → Int) (N : Nat) (T : St) (p : Nat) : Option (Int × Nat) := match sName f N p with
  | none => none
  | some (w, e) => if sFind T 0 w ≠ -1 then some (sFind T 0 w + 10, e) else if sFind T 1 w ≠ -1 ∧ T 10 (sFind T 1 w).toNat = 0 then some (sFind T 1 w + 20, e) else none
/-- an answer that is a number or none, over tokens alone -/
def CR (f : Nat → Int) (N ta : Nat) (B : St) (r : Option (Int × Nat)) (z : Int) (u : St) : Prop := match r with
  | none => z = -1
  | some (v, e) => z = v ∧ z ≠ -1 ∧ CS f N e u ∧ tw ta u = tw ta B
theorem C_asked_0 {f : Nat → Int} {N p ta : Nat} (hta : isT ta) {B u : St} {z : Int} (hE : EK f N B) (hX : LXA f N p B) (h : q_X5_asked_2_0 ta B z u) : CR f N ta B (sAsk f N (tw ta B) 0 p) z u := by
  have ht : tw ta u = tw ta B := tw_fk hta h.2.2.1 rfl
  obtain ⟨z1, A2, hq, h⟩ := (h.1 : tr_r_X5_asked_2_0 ta B z u)
  obtain ⟨hE2, hX2, hn⟩ := C_isNameAhead hE hX hq
  unfold CR sAsk
  rcases h with ⟨c, A6, hp, z11, hf, h⟩ | ⟨c, z19, A20, hb, hz, hu⟩
  · rcases hn with ⟨_, hn, tk, hv⟩ | ⟨hz, _⟩
    · rw [hn]
      have hP := passX hE2 hX2 (by omega) hp
      have e6 : tw ta A6 = tw ta B := (tw_fk hta hp.2.2.1 rfl).trans (tw_fk hta hq.2.2.1 rfl)
      have e : z11 = sFind (tw ta B) 0 (wv f N p) := by rw [F_0 hf.1, hv, e6]
      show match (if sFind (tw ta B) 0 (wv f N p) = -1 then none else some (sFind (tw ta B) 0 (wv f N p), tEnd f N p)) with
        | none => z = -1
        | some (v, e) => z = v ∧ z ≠ -1 ∧ CS f N e u ∧ tw ta u = tw ta B
      rw [← e]
      rcases h with ⟨c, hz, hu⟩ | ⟨c, z15, A16, hb, hz, hu⟩
      · rw [if_neg c]
        exact ⟨hz, by omega, by rw [hu]; exact ⟨hP.1, hP.2.1⟩, ht⟩
      · rw [if_pos c]
        exact hz.trans (C_none hb)
    · exact absurd hz c
  · rcases hn with ⟨hz1, _⟩ | ⟨_, hn⟩
    · omega
    · rw [hn]
      exact hz.trans (C_none hb)
theorem C_asked_1 {f : Nat → Int} {N p ta : Nat} (hta : isT ta) {B u : St} {z : Int} (hE : EK f N B) (hX : LXA f N p B) (h : q_X5_asked_2_1 ta B z u) : CR f N ta B (sAsk f N (tw ta B) 1 p) z u := by
  have ht : tw ta u = tw ta B := tw_fk hta h.2.2.1 rfl
  obtain ⟨z1, A2, hq, h⟩ := (h.1 : tr_r_X5_asked_2_1 ta B z u)
  obtain ⟨hE2, hX2, hn⟩ := C_isNameAhead hE hX hq
  unfold CR sAsk
  rcases h with ⟨c, A6, hp, z11, hf, h⟩ | ⟨c, z19, A20, hb, hz, hu⟩
  · rcases hn with ⟨_, hn, tk, hv⟩ | ⟨hz, _⟩
    · rw [hn]
      have hP := passX hE2 hX2 (by omega) hp
      have e6 : tw ta A6 = tw ta B := (tw_fk hta hp.2.2.1 rfl).trans (tw_fk hta hq.2.2.1 rfl)
      have e : z11 = sFind (tw ta B) 1 (wv f N p) := by rw [F_1 hf.1, hv, e6]
      show match (if sFind (tw ta B) 1 (wv f N p) = -1 then none else some (sFind (tw ta B) 1 (wv f N p), tEnd f N p)) with
        | none => z = -1
        | some (v, e) => z = v ∧ z ≠ -1 ∧ CS f N e u ∧ tw ta u = tw ta B
      rw [← e]
      rcases h with ⟨c, hz, hu⟩ | ⟨c, z15, A16, hb, hz, hu⟩
      · rw [if_neg c]
        exact ⟨hz, by omega, by rw [hu]; exact ⟨hP.1, hP.2.1⟩, ht⟩
      · rw [if_pos c]
        exact hz.trans (C_none hb)
    · exact absurd hz c
  · rcases hn with ⟨hz1, _⟩ | ⟨_, hn⟩
    · omega
    · rw [hn]
      exact hz.trans (C_none hb)
theorem C_asked_2 {f : Nat → Int} {N p ta : Nat} (hta : isT ta) {B u : St} {z : Int} (hE : EK f N B) (hX : LXA f N p B) (h : q_X5_asked_2_2 ta B z u) : CR f N ta B (sAsk f N (tw ta B) 2 p) z u := by
  have ht : tw ta u = tw ta B := tw_fk hta h.2.2.1 rfl
  obtain ⟨z1, A2, hq, h⟩ := (h.1 : tr_r_X5_asked_2_2 ta B z u)
  obtain ⟨hE2, hX2, hn⟩ := C_isNameAhead hE hX hq
  unfold CR sAsk
  rcases h with ⟨c, A6, hp, z11, hf, h⟩ | ⟨c, z19, A20, hb, hz, hu⟩
  · rcases hn with ⟨_, hn, tk, hv⟩ | ⟨hz, _⟩
    · rw [hn]
      have hP := passX hE2 hX2 (by omega) hp
      have e6 : tw ta A6 = tw ta B := (tw_fk hta hp.2.2.1 rfl).trans (tw_fk hta hq.2.2.1 rfl)
      have e : z11 = sFind (tw ta B) 2 (wv f N p) := by rw [F_2 hf.1, hv, e6]
      show match (if sFind (tw ta B) 2 (wv f N p) = -1 then none else some (sFind (tw ta B) 2 (wv f N p), tEnd f N p)) with
        | none => z = -1
        | some (v, e) => z = v ∧ z ≠ -1 ∧ CS f N e u ∧ tw ta u = tw ta B
      rw [← e]
      rcases h with ⟨c, hz, hu⟩ | ⟨c, z15, A16, hb, hz, hu⟩
      · rw [if_neg c]
        exact ⟨hz, by omega, by rw [hu]; exact ⟨hP.1, hP.2.1⟩, ht⟩
      · rw [if_pos c]
        exact hz.trans (C_none hb)
    · exact absurd hz c
  · rcases hn with ⟨hz1, _⟩ | ⟨_, hn⟩
    · omega
    · rw [hn]
      exact hz.trans (C_none hb)
theorem C_asked_3 {f : Nat → Int} {N p ta : Nat} (hta : isT ta) {B u : St} {z : Int} (hE : EK f N B) (hX : LXA f N p B) (h : q_X5_asked_2_3 ta B z u) : CR f N ta B (sAsk f N (tw ta B) 3 p) z u := by
  have ht : tw ta u = tw ta B := tw_fk hta h.2.2.1 rfl
  obtain ⟨z1, A2, hq, h⟩ := (h.1 : tr_r_X5_asked_2_3 ta B z u)
  obtain ⟨hE2, hX2, hn⟩ := C_isNameAhead hE hX hq
  unfold CR sAsk
  rcases h with ⟨c, A6, hp, z11, hf, h⟩ | ⟨c, z19, A20, hb, hz, hu⟩
  · rcases hn with ⟨_, hn, tk, hv⟩ | ⟨hz, _⟩
    · rw [hn]
      have hP := passX hE2 hX2 (by omega) hp
      have e6 : tw ta A6 = tw ta B := (tw_fk hta hp.2.2.1 rfl).trans (tw_fk hta hq.2.2.1 rfl)
      have e : z11 = sFind (tw ta B) 3 (wv f N p) := by rw [F_3 hf.1, hv, e6]
      show match (if sFind (tw ta B) 3 (wv f N p) = -1 then none else some (sFind (tw ta B) 3 (wv f N p), tEnd f N p)) with
        | none => z = -1
        | some (v, e) => z = v ∧ z ≠ -1 ∧ CS f N e u ∧ tw ta u = tw ta B
      rw [← e]
      rcases h with ⟨c, hz, hu⟩ | ⟨c, z15, A16, hb, hz, hu⟩
      · rw [if_neg c]
        exact ⟨hz, by omega, by rw [hu]; exact ⟨hP.1, hP.2.1⟩, ht⟩
      · rw [if_pos c]
        exact hz.trans (C_none hb)
    · exact absurd hz c
  · rcases hn with ⟨hz1, _⟩ | ⟨_, hn⟩
    · omega
    · rw [hn]
      exact hz.trans (C_none hb)
theorem C_asked_4 {f : Nat → Int} {N p ta : Nat} (hta : isT ta) {B u : St} {z : Int} (hE : EK f N B) (hX : LXA f N p B) (h : q_X5_asked_2_4 ta B z u) : CR f N ta B (sAsk f N (tw ta B) 4 p) z u := by
  have ht : tw ta u = tw ta B := tw_fk hta h.2.2.1 rfl
  obtain ⟨z1, A2, hq, h⟩ := (h.1 : tr_r_X5_asked_2_4 ta B z u)
  obtain ⟨hE2, hX2, hn⟩ := C_isNameAhead hE hX hq
  unfold CR sAsk
  rcases h with ⟨c, A6, hp, z11, hf, h⟩ | ⟨c, z19, A20, hb, hz, hu⟩
  · rcases hn with ⟨_, hn, tk, hv⟩ | ⟨hz, _⟩
    · rw [hn]
      have hP := passX hE2 hX2 (by omega) hp
      have e6 : tw ta A6 = tw ta B := (tw_fk hta hp.2.2.1 rfl).trans (tw_fk hta hq.2.2.1 rfl)
      have e : z11 = sFind (tw ta B) 4 (wv f N p) := by rw [F_4 hf.1, hv, e6]
      show match (if sFind (tw ta B) 4 (wv f N p) = -1 then none else some (sFind (tw ta B) 4 (wv f N p), tEnd f N p)) with
        | none => z = -1
        | some (v, e) => z = v ∧ z ≠ -1 ∧ CS f N e u ∧ tw ta u = tw ta B
      rw [← e]
      rcases h with ⟨c, hz, hu⟩ | ⟨c, z15, A16, hb, hz, hu⟩
      · rw [if_neg c]
        exact ⟨hz, by omega, by rw [hu]; exact ⟨hP.1, hP.2.1⟩, ht⟩
      · rw [if_pos c]
        exact hz.trans (C_none hb)
    · exact absurd hz c
  · rcases hn with ⟨hz1, _⟩ | ⟨_, hn⟩
    · omega
    · rw [hn]
      exact hz.trans (C_none hb)
