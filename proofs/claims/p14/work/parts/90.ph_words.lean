/-! Words of the reference, eight bits a letter, against words of five. -/
theorem w5_front (f : Nat → Int) : ∀ n s, w5 f s (n + 1) = (f s - 96) + 32 * w5 f (s + 1) n := by
  intro n
  induction n with
  | zero => intro s; show (0 : Int) + (f (s + 0) - 96) * 32 ^ 0 = (f s - 96) + 32 * 0; rw [Int.pow_zero, Nat.add_zero]; omega
  | succ n ih =>
    intro s
    have e : w5 f s (n + 1 + 1) = w5 f s (n + 1) + (f (s + (n + 1)) - 96) * 32 ^ (n + 1) := rfl
    have e2 : w5 f (s + 1) (n + 1) = w5 f (s + 1) n + (f (s + 1 + n) - 96) * 32 ^ n := rfl
    rw [e, ih s, e2, Int.pow_succ, show s + (n + 1) = s + 1 + n by omega, ← Int.mul_assoc]
    omega
theorem w5_pos {f : Nat → Int} : ∀ n s, (∀ k, k < n → isL (f (s + k))) → 0 ≤ w5 f s n ∧ (0 < n → 1 ≤ w5 f s n) := by
  intro n
  induction n with
  | zero => intro s _; exact ⟨Int.le_refl _, fun h => absurd h (by omega)⟩
  | succ n ih =>
    intro s h
    have h0 : isL (f s) := h 0 (by omega)
    have h1 := ih (s + 1) (fun k hk => by rw [show s + 1 + k = s + (k + 1) by omega]; exact h (k + 1) (by omega))
    rw [w5_front]
    omega
theorem w5_inj {f g : Nat → Int} : ∀ n m s t, (∀ k, k < n → isL (f (s + k))) → (∀ k, k < m → isL (g (t + k))) → w5 f s n = w5 g t m → n = m ∧ ∀ k, k < n → f (s + k) = g (t + k) := by
  intro n
  induction n with
  | zero =>
    intro m s t _ hg e
    cases m with
    | zero => exact ⟨rfl, fun k hk => absurd hk (by omega)⟩
    | succ m =>
      have := (w5_pos (m + 1) t hg).2 (by omega)
      have e : (0 : Int) = w5 g t (m + 1) := e
      omega
  | succ n ih =>
    intro m s t hf hg e
    cases m with
    | zero =>
      have := (w5_pos (n + 1) s hf).2 (by omega)
      have e : w5 f s (n + 1) = (0 : Int) := e
      omega
    | succ m =>
      rw [w5_front, w5_front] at e
      have hf' : ∀ k, k < n → isL (f (s + 1 + k)) := fun k hk => by rw [show s + 1 + k = s + (k + 1) by omega]; exact hf (k + 1) (by omega)
      have hg' : ∀ k, k < m → isL (g (t + 1 + k)) := fun k hk => by rw [show t + 1 + k = t + (k + 1) by omega]; exact hg (k + 1) (by omega)
      have f0 : isL (f s) := hf 0 (by omega)
      have g0 : isL (g t) := hg 0 (by omega)
      have i := ih m (s + 1) (t + 1) hf' hg' (by omega)
      refine ⟨by omega, fun k hk => ?_⟩
      cases k with
      | zero => show f s = g t; omega
      | succ k =>
        have := i.2 k (by omega)
        rw [show s + 1 + k = s + (k + 1) by omega, show t + 1 + k = t + (k + 1) by omega] at this
        exact this
theorem w8_pos {f : Nat → Int} {s : Nat} : ∀ n, (∀ k, k < n → isL (f (s + k))) → 0 ≤ w8 f s n ∧ (0 < n → 1 ≤ w8 f s n) := by
  intro n
  induction n with
  | zero => intro _; exact ⟨Int.le_refl _, fun h => absurd h (by omega)⟩
  | succ n ih =>
    intro h
    have h0 := h n (by omega)
    have h1 := ih (fun k hk => h k (by omega))
    show 0 ≤ 256 * w8 f s n + f (s + n) ∧ (0 < n + 1 → 1 ≤ 256 * w8 f s n + f (s + n))
    omega
theorem w8_inj {f g : Nat → Int} {s t : Nat} : ∀ n m, (∀ k, k < n → isL (f (s + k))) → (∀ k, k < m → isL (g (t + k))) → w8 f s n = w8 g t m → n = m ∧ ∀ k, k < n → f (s + k) = g (t + k) := by
  intro n
  induction n with
  | zero =>
    intro m _ hg e
    cases m with
    | zero => exact ⟨rfl, fun k hk => absurd hk (by omega)⟩
    | succ m =>
      have := (w8_pos (m + 1) hg).2 (by omega)
      have e : (0 : Int) = w8 g t (m + 1) := e
      omega
  | succ n ih =>
    intro m hf hg e
    cases m with
    | zero =>
      have := (w8_pos (n + 1) hf).2 (by omega)
      have e : w8 f s (n + 1) = (0 : Int) := e
      omega
    | succ m =>
      have e : 256 * w8 f s n + f (s + n) = 256 * w8 g t m + g (t + m) := e
      have f0 := hf n (by omega)
      have g0 := hg m (by omega)
      have i := ih m (fun k hk => hf k (by omega)) (fun k hk => hg k (by omega)) (by omega)
      refine ⟨by omega, fun k hk => ?_⟩
      by_cases h : k = n
      · subst h
        have := i.1
        subst this
        omega
      · exact i.2 k (by omega)
theorem w5_congr {f g : Nat → Int} {s t : Nat} : ∀ n, (∀ k, k < n → f (s + k) = g (t + k)) → w5 f s n = w5 g t n := by
  intro n
  induction n with
  | zero => intro _; rfl
  | succ n ih =>
    intro h
    show w5 f s n + (f (s + n) - 96) * 32 ^ n = w5 g t n + (g (t + n) - 96) * 32 ^ n
    rw [ih (fun k hk => h k (by omega)), h n (by omega)]
theorem w8_congr {f g : Nat → Int} {s t : Nat} : ∀ n, (∀ k, k < n → f (s + k) = g (t + k)) → w8 f s n = w8 g t n := by
  intro n
  induction n with
  | zero => intro _; rfl
  | succ n ih =>
    intro h
    show 256 * w8 f s n + f (s + n) = 256 * w8 g t n + g (t + n)
    rw [ih (fun k hk => h k (by omega)), h n (by omega)]
/-- the same word, as the reference and as the class has it -/
def WR (x y : Int) : Prop := ∃ (g : Nat → Int) (s n : Nat), (∀ k, k < n → isL (g (s + k))) ∧ x = w8 g s n ∧ y = w5 g s n ∧ 0 < n ∧ n ≤ 6
theorem WR.inj {x y x' y' : Int} (h : WR x y) (h' : WR x' y') : x = x' ↔ y = y' := by
  obtain ⟨g, s, n, hl, rfl, rfl, _⟩ := h
  obtain ⟨g', s', n', hl', rfl, rfl, _⟩ := h'
  constructor
  · intro e
    obtain ⟨rfl, h⟩ := w8_inj n n' hl hl' e
    exact w5_congr n h
  · intro e
    obtain ⟨rfl, h⟩ := w5_inj n n' s s' hl hl' e
    exact w8_congr n h
def own8L : List Int := [482854658917, 1685024626, 6451064, 7038329, 123581014175598, 499967946343, 512735736947, 1836413812, 6447474, 6840691, 1936225652, 1819243380, 24948, 26990, 25209, 2003330414, 28530, 6385252, 7237492, 6384748, 7825519, 1936748404, 1801812339, 109317377451364, 7170414, 7168376]
def own8 (k : Nat) : Int := own8L.getD k 0
theorem WR_own0 : WR 482854658917 5342608 := ⟨fun k => ([112, 108, 97, 99, 101] : List Int).getD k 0, 0, 5, by decide, by decide, by decide, by decide, by decide⟩
theorem WR_own1 : WR 1685024626 605668 := ⟨fun k => ([100, 111, 111, 114] : List Int).getD k 0, 0, 4, by decide, by decide, by decide, by decide, by decide⟩
theorem WR_own2 : WR 6451064 25058 := ⟨fun k => ([98, 111, 120] : List Int).getD k 0, 0, 3, by decide, by decide, by decide, by decide, by decide⟩
theorem WR_own3 : WR 7038329 25771 := ⟨fun k => ([107, 101, 121] : List Int).getD k 0, 0, 3, by decide, by decide, by decide, by decide, by decide⟩
theorem WR_own4 : WR 123581014175598 486131888 := ⟨fun k => ([112, 101, 114, 115, 111, 110] : List Int).getD k 0, 0, 6, by decide, by decide, by decide, by decide, by decide⟩
theorem WR_own5 : WR 499967946343 7808276 := ⟨fun k => ([116, 104, 105, 110, 103] : List Int).getD k 0, 0, 5, by decide, by decide, by decide, by decide, by decide⟩
theorem WR_own6 : WR 512735736947 20592695 := ⟨fun k => ([119, 97, 110, 116, 115] : List Int).getD k 0, 0, 5, by decide, by decide, by decide, by decide, by decide⟩
theorem WR_own7 : WR 1836413812 675501 := ⟨fun k => ([109, 117, 115, 116] : List Int).getD k 0, 0, 4, by decide, by decide, by decide, by decide, by decide⟩
theorem WR_own8 : WR 6447474 18466 := ⟨fun k => ([98, 97, 114] : List Int).getD k 0, 0, 3, by decide, by decide, by decide, by decide, by decide⟩
theorem WR_own9 : WR 6840691 19496 := ⟨fun k => ([104, 97, 115] : List Int).getD k 0, 0, 3, by decide, by decide, by decide, by decide, by decide⟩
theorem WR_own10 : WR 1936225652 677139 := ⟨fun k => ([115, 104, 117, 116] : List Int).getD k 0, 0, 4, by decide, by decide, by decide, by decide, by decide⟩
theorem WR_own11 : WR 1819243380 675308 := ⟨fun k => ([108, 111, 115, 116] : List Int).getD k 0, 0, 4, by decide, by decide, by decide, by decide, by decide⟩
theorem WR_own12 : WR 24948 641 := ⟨fun k => ([97, 116] : List Int).getD k 0, 0, 2, by decide, by decide, by decide, by decide, by decide⟩
theorem WR_own13 : WR 26990 457 := ⟨fun k => ([105, 110] : List Int).getD k 0, 0, 2, by decide, by decide, by decide, by decide, by decide⟩
theorem WR_own14 : WR 25209 802 := ⟨fun k => ([98, 121] : List Int).getD k 0, 0, 2, by decide, by decide, by decide, by decide, by decide⟩
theorem WR_own15 : WR 2003330414 464151 := ⟨fun k => ([119, 104, 101, 110] : List Int).getD k 0, 0, 4, by decide, by decide, by decide, by decide, by decide⟩
theorem WR_own16 : WR 28530 591 := ⟨fun k => ([111, 114] : List Int).getD k 0, 0, 2, by decide, by decide, by decide, by decide, by decide⟩
theorem WR_own17 : WR 6385252 4545 := ⟨fun k => ([97, 110, 100] : List Int).getD k 0, 0, 3, by decide, by decide, by decide, by decide, by decide⟩
theorem WR_own18 : WR 7237492 20974 := ⟨fun k => ([110, 111, 116] : List Int).getD k 0, 0, 3, by decide, by decide, by decide, by decide, by decide⟩
theorem WR_own19 : WR 6384748 12673 := ⟨fun k => ([97, 108, 108] : List Int).getD k 0, 0, 3, by decide, by decide, by decide, by decide, by decide⟩
theorem WR_own20 : WR 7825519 15639 := ⟨fun k => ([119, 104, 111] : List Int).getD k 0, 0, 3, by decide, by decide, by decide, by decide, by decide⟩
theorem WR_own21 : WR 1936748404 671251 := ⟨fun k => ([115, 112, 111, 116] : List Int).getD k 0, 0, 4, by decide, by decide, by decide, by decide, by decide⟩
theorem WR_own22 : WR 1801812339 648363 := ⟨fun k => ([107, 101, 121, 115] : List Int).getD k 0, 0, 4, by decide, by decide, by decide, by decide, by decide⟩
theorem WR_own23 : WR 109317377451364 140098947 := ⟨fun k => ([99, 108, 111, 115, 101, 100] : List Int).getD k 0, 0, 6, by decide, by decide, by decide, by decide, by decide⟩
theorem WR_own24 : WR 7170414 14637 := ⟨fun k => ([109, 105, 110] : List Int).getD k 0, 0, 3, by decide, by decide, by decide, by decide, by decide⟩
theorem WR_own25 : WR 7168376 24621 := ⟨fun k => ([109, 97, 120] : List Int).getD k 0, 0, 3, by decide, by decide, by decide, by decide, by decide⟩
theorem WR_own : ∀ k, k < 26 → WR (own8 k) (own5 k)
  | 0, _ => WR_own0
  | 1, _ => WR_own1
  | 2, _ => WR_own2
  | 3, _ => WR_own3
  | 4, _ => WR_own4
  | 5, _ => WR_own5
  | 6, _ => WR_own6
  | 7, _ => WR_own7
  | 8, _ => WR_own8
  | 9, _ => WR_own9
  | 10, _ => WR_own10
  | 11, _ => WR_own11
  | 12, _ => WR_own12
  | 13, _ => WR_own13
  | 14, _ => WR_own14
  | 15, _ => WR_own15
  | 16, _ => WR_own16
  | 17, _ => WR_own17
  | 18, _ => WR_own18
  | 19, _ => WR_own19
  | 20, _ => WR_own20
  | 21, _ => WR_own21
  | 22, _ => WR_own22
  | 23, _ => WR_own23
  | 24, _ => WR_own24
  | 25, _ => WR_own25
  | k + 26, h => absurd h (by omega)
theorem ownz_own : ∀ k : Fin 26, ownz (own8 k.val) = 1 := by decide +kernel
theorem ownz_01 (x : Int) : ownz x = 0 ∨ ownz x = 1 := by
  unfold ownz
  split
  · exact Or.inr rfl
  · exact Or.inl rfl
theorem ownz_mem {x : Int} (h : ownz x = 1) : ∃ k, k < 26 ∧ x = own8 k := by
  unfold ownz at h
  split at h
  · rename_i g
    rcases g with g | g | g | g | g | g | g | g | g | g | g | g | g | g | g | g | g | g | g | g | g | g | g | g | g | g
    · exact ⟨0, by decide, g⟩
    · exact ⟨1, by decide, g⟩
    · exact ⟨2, by decide, g⟩
    · exact ⟨12, by decide, g⟩
    · exact ⟨3, by decide, g⟩
    · exact ⟨13, by decide, g⟩
    · exact ⟨4, by decide, g⟩
    · exact ⟨9, by decide, g⟩
    · exact ⟨10, by decide, g⟩
    · exact ⟨14, by decide, g⟩
    · exact ⟨11, by decide, g⟩
    · exact ⟨5, by decide, g⟩
    · exact ⟨6, by decide, g⟩
    · exact ⟨7, by decide, g⟩
    · exact ⟨8, by decide, g⟩
    · exact ⟨15, by decide, g⟩
    · exact ⟨16, by decide, g⟩
    · exact ⟨17, by decide, g⟩
    · exact ⟨18, by decide, g⟩
    · exact ⟨19, by decide, g⟩
    · exact ⟨20, by decide, g⟩
    · exact ⟨21, by decide, g⟩
    · exact ⟨22, by decide, g⟩
    · exact ⟨23, by decide, g⟩
    · exact ⟨24, by decide, g⟩
    · exact ⟨25, by decide, g⟩
  · exact absurd h (by decide)
theorem ownz_iff {x y : Int} (h : WR x y) : ownz x = 1 ↔ isOwn5 y = true := by
  rw [isOwn5_iff]
  constructor
  · intro g
    obtain ⟨k, hk, e⟩ := ownz_mem g
    exact ⟨k, hk, (((WR_own k hk).inj h).mp e.symm)⟩
  · rintro ⟨k, hk, e⟩
    have e2 : own8 k = x := ((WR_own k hk).inj h).mpr e
    rw [← e2]
    exact ownz_own ⟨k, hk⟩
theorem fnd_snoc (g : Nat → Int) (w : Int) : ∀ n i, fnd g w (n + 1) i = if fnd g w n i = -1 then (if g (i + n) = w then ((i + n : Nat) : Int) else -1) else fnd g w n i := by
  intro n
  induction n with
  | zero =>
    intro i
    show (if g i = w then (i : Int) else -1) = if (-1 : Int) = -1 then (if g (i + 0) = w then ((i + 0 : Nat) : Int) else -1) else -1
    rw [if_pos rfl, Nat.add_zero]
  | succ n ih =>
    intro i
    have e1 : fnd g w (n + 1 + 1) i = if g i = w then (i : Int) else fnd g w (n + 1) (i + 1) := rfl
    have e2 : fnd g w (n + 1) i = if g i = w then (i : Int) else fnd g w n (i + 1) := rfl
    by_cases h : g i = w
    · rw [e1, e2, if_pos h, if_pos h, if_neg (by omega)]
    · rw [e1, e2, if_neg h, if_neg h, ih (i + 1), show i + 1 + n = i + (n + 1) by omega]
theorem lk_fnd (g : Nat → Int) (o : Nat) (w : Int) : ∀ n, lk g o w n = fnd (fun k => g (o + k)) w n 0 := by
  intro n
  induction n with
  | zero => rfl
  | succ n ih =>
    rw [fnd_snoc, ← ih, Nat.zero_add]
    rfl
theorem fnd_congr {g h : Nat → Int} {w w' : Int} : ∀ n i, (∀ k, i ≤ k → k < i + n → (g k = w ↔ h k = w')) → fnd g w n i = fnd h w' n i := by
  intro n
  induction n with
  | zero => intro i _; rfl
  | succ n ih =>
    intro i hk
    have h0 := hk i (by omega) (by omega)
    have h1 := ih (i + 1) (fun k a b => hk k (by omega) (by omega))
    unfold fnd
    by_cases e : g i = w
    · rw [if_pos e, if_pos (h0.mp e)]
    · rw [if_neg e, if_neg (fun e2 => e (h0.mpr e2)), h1]
