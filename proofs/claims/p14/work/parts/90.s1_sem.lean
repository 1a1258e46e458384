/-! What a test's codes are worth: both rows of codes, run on a stack. -/
def bdI (x : Int) : Int := if 1000000 < x then 1000000 else if x < -1000000 then -1000000 else x
def jn (w a b : Int) : Int :=
  if w = -7 then (if 0 < a + b then 1 else 0)
  else if w = -8 then a * b
  else if w = -9 then (if a < b then 1 else 0)
  else if w = -10 then (if b < a then 1 else 0)
  else if w = -11 then (if a = b then 1 else 0)
  else if w = -12 then bdI (a + b)
  else if w = -13 then bdI (a - b)
  else if w = -14 then bdI (a * b)
  else if w = -15 then (if b = 0 then 0 else a.fdiv b)
  else if w = -16 then (if b = 0 then 0 else a.fmod b)
  else if w = -17 then (if a < b then a else b)
  else (if b < a then a else b)
def vlE (E : Nat → Int) (w : Int) : Int := if w = -1 then E 1 else if w = -2 then E 2 else if w = -3 then E 3 else if w = -4 then E 4 else if w = -5 then 1 else w
def okV (w a b : Int) : Prop := (-1000000 ≤ a ∧ a ≤ 1000000) ∧ (-1000000 ≤ b ∧ b ≤ 1000000) ∧ (w = -7 ∨ w = -8 → (a = 0 ∨ a = 1) ∧ (b = 0 ∨ b = 1))
def okB (w a b : Int) : Bool := (decide (-1000000 ≤ a) && decide (a ≤ 1000000)) && (decide (-1000000 ≤ b) && decide (b ≤ 1000000)) && (!(decide (w = -7) || decide (w = -8)) || ((decide (a = 0) || decide (a = 1)) && (decide (b = 0) || decide (b = 1))))
theorem okB_iff {w a b : Int} : okB w a b = true ↔ okV w a b := by
  unfold okB okV
  simp only [Bool.and_eq_true, Bool.or_eq_true, Bool.not_eq_true', Bool.or_eq_false_iff, decide_eq_true_eq, decide_eq_false_iff_not]
  constructor
  · rintro ⟨⟨h1, h2⟩, h3⟩
    refine ⟨h1, h2, fun g => ?_⟩
    rcases h3 with h3 | h3
    · rcases g with g | g
      · exact absurd g h3.1
      · exact absurd g h3.2
    · exact h3
  · rintro ⟨h1, h2, h3⟩
    refine ⟨⟨h1, h2⟩, ?_⟩
    by_cases g : w = -7 ∨ w = -8
    · exact Or.inr (h3 g)
    · exact Or.inl ⟨fun e => g (Or.inl e), fun e => g (Or.inr e)⟩
def lfB (L n : Nat) (v : Int) : Bool := decide (n < L) && (decide (-1000000 ≤ v) && decide (v ≤ 1000000))
def step1 (L : Nat) (E : Nat → Int) (w : Int) (s : List Int) : Option (List Int) :=
  if -5 ≤ w then (bif lfB L s.length (vlE E w) then some (vlE E w :: s) else none)
  else if w = -6 then (match s with | x :: r => (bif decide (x = 0) || decide (x = 1) then some ((1 - x) :: r) else none) | [] => none)
  else (match s with | b :: a :: r => (bif okB w a b then some (jn w a b :: r) else none) | _ => none)
def run (L : Nat) (E : Nat → Int) : List Int → List Int → Option (List Int)
  | [], s => some s
  | w :: W, s => (step1 L E w s).bind (run L E W)
theorem run_app {L : Nat} {E : Nat → Int} : ∀ (W V s : List Int), run L E (W ++ V) s = (run L E W s).bind (run L E V) := by
  intro W
  induction W with
  | nil => intro V s; rfl
  | cons w W ih =>
    intro V s
    show (step1 L E w s).bind (run L E (W ++ V)) = ((step1 L E w s).bind (run L E W)).bind (run L E V)
    cases step1 L E w s with
    | none => rfl
    | some t => exact ih V t
def VN (v : Int) : Prop := -1000000 ≤ v ∧ v ≤ 1000000
def V1 (v : Int) : Prop := v = 0 ∨ v = 1
def EB (E : Nat → Int) : Prop := ∀ i, 0 ≤ E i ∧ E i ≤ 1000
/-- both rows of codes give one value more, the same one, with at most k places of the stack -/
def Sem (VB : Int → Prop) (k : Nat) (C R : List Int) : Prop := ∀ E, EB E → ∃ v, VB v ∧ ∀ (L : Nat) (s : List Int), s.length + k ≤ L → run L E C s = some (v :: s) ∧ run L E R s = some (v :: s)
theorem Sem.mono {VB : Int → Prop} {k k' : Nat} {C R : List Int} (h : Sem VB k C R) (hk : k ≤ k') : Sem VB k' C R := by
  intro E hE
  obtain ⟨v, hv, g⟩ := h E hE
  exact ⟨v, hv, fun L s hs => g L s (by omega)⟩
theorem Sem_leaf {w : Int} (h1 : -4 ≤ w) (h2 : w ≤ 9999) : Sem VN 1 [w] [w] := by
  intro E hE
  have e1 := hE 1
  have e2 := hE 2
  have e3 := hE 3
  have e4 := hE 4
  have vb : VN (vlE E w) := by
    unfold vlE VN
    by_cases c1 : w = -1
    · rw [if_pos c1]; omega
    · rw [if_neg c1]
      by_cases c2 : w = -2
      · rw [if_pos c2]; omega
      · rw [if_neg c2]
        by_cases c3 : w = -3
        · rw [if_pos c3]; omega
        · rw [if_neg c3]
          by_cases c4 : w = -4
          · rw [if_pos c4]; omega
          · rw [if_neg c4, if_neg (by omega)]; omega
  refine ⟨vlE E w, vb, fun L s hs => ?_⟩
  · have g : run L E [w] s = some (vlE E w :: s) := by
      show (step1 L E w s).bind (run L E []) = _
      have lb : lfB L s.length (vlE E w) = true := by
        unfold lfB
        simp only [Bool.and_eq_true, decide_eq_true_eq]
        exact ⟨by omega, vb⟩
      unfold step1
      rw [if_pos (by omega), lb]
      rfl
    exact ⟨g, g⟩
theorem Sem_all : Sem V1 1 [-5] [-5] := by
  intro E _
  refine ⟨1, Or.inr rfl, fun L s hs => ?_⟩
  have g : run L E [-5] s = some (1 :: s) := by
    show (step1 L E (-5) s).bind (run L E []) = _
    have lb : lfB L s.length (vlE E (-5)) = true := by
      unfold lfB
      simp only [Bool.and_eq_true, decide_eq_true_eq]
      exact ⟨by omega, (⟨by decide, by decide⟩ : (-1000000 : Int) ≤ 1 ∧ (1 : Int) ≤ 1000000)⟩
    unfold step1
    rw [if_pos (by decide), lb]
    rfl
  exact ⟨g, g⟩
theorem run_op {L : Nat} {E : Nat → Int} {w a b : Int} {s : List Int} (hw : w < -6) (ok : okV w a b) : run L E [w] (b :: a :: s) = some (jn w a b :: s) := by
  show (step1 L E w (b :: a :: s)).bind (run L E []) = _
  unfold step1
  rw [if_neg (by omega), if_neg (by omega)]
  show ((bif okB w a b then some (jn w a b :: s) else none).bind (run L E [])) = _
  rw [okB_iff.mpr ok]
  rfl
theorem Sem_bin {VA VB : Int → Prop} {k1 k2 k : Nat} {C1 R1 C2 R2 : List Int} {w : Int} (h1 : Sem VA k1 C1 R1) (h2 : Sem VA k2 C2 R2) (hw : w < -6) (hk : k1 ≤ k ∧ k2 + 1 ≤ k) (hv : ∀ a b, VA a → VA b → VB (jn w a b) ∧ okV w a b) : Sem VB k (C1 ++ C2 ++ [w]) (R1 ++ R2 ++ [w]) := by
  intro E hE
  obtain ⟨v1, b1, g1⟩ := h1 E hE
  obtain ⟨v2, b2, g2⟩ := h2 E hE
  refine ⟨jn w v1 v2, (hv v1 v2 b1 b2).1, fun L s hs => ?_⟩
  have a1 := g1 L s (by omega)
  have a2 := g2 L (v1 :: s) (by show s.length + 1 + k2 ≤ L; omega)
  constructor
  · rw [run_app, run_app, a1.1]
    show ((run L E C2 (v1 :: s)).bind (run L E [w])) = _
    rw [a2.1]
    exact run_op hw (hv v1 v2 b1 b2).2
  · rw [run_app, run_app, a1.2]
    show ((run L E R2 (v1 :: s)).bind (run L E [w])) = _
    rw [a2.2]
    exact run_op hw (hv v1 v2 b1 b2).2
theorem bdI_vn {x : Int} : VN (bdI x) := by
  unfold bdI VN
  split
  · omega
  · split <;> omega
theorem fdiv_vn {a b : Int} (ha : VN a) (_ : ¬ b = 0) : VN (a.fdiv b) := by
  have g := Int.natAbs_fdiv_le_natAbs a b
  obtain ⟨a1, a2⟩ := ha
  unfold VN
  omega
theorem fmod_vn {a b : Int} (hb : VN b) (nb : ¬ b = 0) : VN (a.fmod b) := by
  obtain ⟨b1, b2⟩ := hb
  unfold VN
  rcases Int.lt_or_gt_of_ne nb with g | g
  · have e := Int.fmod_eq_emod (a := a) (b := b)
    have r0 := Int.emod_nonneg a nb
    have r1 := Int.emod_lt_of_pos a (show 0 < -b by omega)
    rw [Int.emod_neg] at r1
    rw [e]
    split <;> omega
  · have r0 := Int.fmod_nonneg_of_pos a g
    have r1 := Int.fmod_lt_of_pos a g
    omega
theorem jn_vn {w a b : Int} (hw : -18 ≤ w ∧ w ≤ -12) (ha : VN a) (hb : VN b) : VN (jn w a b) ∧ okV w a b := by
  refine ⟨?_, ha, hb, fun g => by omega⟩
  unfold jn
  rw [if_neg (by omega), if_neg (by omega), if_neg (by omega), if_neg (by omega), if_neg (by omega)]
  by_cases c1 : w = -12
  · rw [if_pos c1]; exact bdI_vn
  · rw [if_neg c1]
    by_cases c2 : w = -13
    · rw [if_pos c2]; exact bdI_vn
    · rw [if_neg c2]
      by_cases c3 : w = -14
      · rw [if_pos c3]; exact bdI_vn
      · rw [if_neg c3]
        by_cases c4 : w = -15
        · rw [if_pos c4]
          split
          · exact ⟨by decide, by decide⟩
          · rename_i nb
            obtain ⟨a1, a2⟩ := ha
            obtain ⟨b1, b2⟩ := hb
            refine fdiv_vn ⟨a1, a2⟩ nb
        · rw [if_neg c4]
          by_cases c5 : w = -16
          · rw [if_pos c5]
            split
            · exact ⟨by decide, by decide⟩
            · rename_i nb
              exact fmod_vn hb nb
          · rw [if_neg c5]
            by_cases c6 : w = -17
            · rw [if_pos c6]
              split
              · exact ha
              · exact hb
            · rw [if_neg c6]
              split
              · exact ha
              · exact hb
theorem jn_v1c {w a b : Int} (hw : w = -9 ∨ w = -10 ∨ w = -11) (ha : VN a) (hb : VN b) : V1 (jn w a b) ∧ okV w a b := by
  refine ⟨?_, ha, hb, fun g => by omega⟩
  unfold jn V1
  rcases hw with rfl | rfl | rfl
  · rw [if_neg (by decide), if_neg (by decide), if_pos rfl]
    split
    · exact Or.inr rfl
    · exact Or.inl rfl
  · rw [if_neg (by decide), if_neg (by decide), if_neg (by decide), if_pos rfl]
    split
    · exact Or.inr rfl
    · exact Or.inl rfl
  · rw [if_neg (by decide), if_neg (by decide), if_neg (by decide), if_neg (by decide), if_pos rfl]
    split
    · exact Or.inr rfl
    · exact Or.inl rfl
theorem jn_v1l {w a b : Int} (hw : w = -7 ∨ w = -8) (ha : V1 a) (hb : V1 b) : V1 (jn w a b) ∧ okV w a b := by
  have bb : ∀ x : Int, V1 x → -1000000 ≤ x ∧ x ≤ 1000000 := by
    intro x hx
    rcases hx with rfl | rfl <;> decide
  refine ⟨?_, bb a ha, bb b hb, fun _ => ⟨ha, hb⟩⟩
  rcases hw with rfl | rfl
  · rcases ha with rfl | rfl <;> rcases hb with rfl | rfl
    · exact Or.inl (by decide)
    · exact Or.inr (by decide)
    · exact Or.inr (by decide)
    · exact Or.inr (by decide)
  · rcases ha with rfl | rfl <;> rcases hb with rfl | rfl
    · exact Or.inl (by decide)
    · exact Or.inl (by decide)
    · exact Or.inl (by decide)
    · exact Or.inr (by decide)
theorem run_not {L : Nat} {E : Nat → Int} {x : Int} {s : List Int} (hx : V1 x) : run L E [-6] (x :: s) = some ((1 - x) :: s) := by
  rcases hx with rfl | rfl <;> rfl
theorem nots_run {L : Nat} {E : Nat → Int} {s : List Int} : ∀ (j : Nat) (x : Int), V1 x → run L E (List.replicate j (-6)) (x :: s) = some ((if j % 2 = 0 then x else 1 - x) :: s) := by
  intro j
  induction j with
  | zero => intro x _; rfl
  | succ j ih =>
    intro x hx
    have e : run L E (List.replicate (j + 1) (-6)) (x :: s) = run L E (List.replicate j (-6)) ((1 - x) :: s) := by
      rcases hx with rfl | rfl <;> rfl
    have h1 : V1 (1 - x) := by
      rcases hx with rfl | rfl
      · exact Or.inr rfl
      · exact Or.inl rfl
    rw [e, ih (1 - x) h1]
    by_cases c : j % 2 = 0
    · rw [if_pos c, if_neg (by omega)]
    · rw [if_neg c, if_pos (by omega), show 1 - (1 - x) = x by omega]
/-- nots: the class tells at most one of them -/
theorem Sem_nots {k : Nat} {C R N1 : List Int} (h : Sem V1 k C R) (j : Nat) (hN : N1 = if j % 2 = 0 then [] else [-6]) : Sem V1 k (C ++ N1) (R ++ List.replicate j (-6)) := by
  intro E hE
  obtain ⟨v, hv, g⟩ := h E hE
  refine ⟨if j % 2 = 0 then v else 1 - v, ?_, fun L s hs => ?_⟩
  · split
    · exact hv
    · rcases hv with rfl | rfl
      · exact Or.inr (by decide)
      · exact Or.inl (by decide)
  · have a := g L s hs
    constructor
    · rw [run_app, a.1, hN]
      by_cases c : j % 2 = 0
      · rw [if_pos c, if_pos c]; rfl
      · rw [if_neg c, if_neg c]; exact run_not hv
    · rw [run_app, a.2]
      exact nots_run j v hv
