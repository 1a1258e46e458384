/-! The reference's town against the class's: what is the same. -/
theorem bit_tb : ∀ x : Fin 1024, ∀ e : Fin 10, oAnd (oShr (x.val : Int) (e.val : Int)) 1 = if x.val.testBit e.val = true then 1 else 0 := by decide +kernel
theorem bit_iff {x : Int} {d : Nat} (hx : 0 ≤ x ∧ x < 1024) (hd : d < 10) : oAnd (oShr x (d : Int)) 1 = 0 ↔ x.toNat.testBit d = false := by
  have e := bit_tb ⟨x.toNat, by omega⟩ ⟨d, hd⟩
  simp only [show ((x.toNat : Nat) : Int) = x by omega] at e
  rw [e]
  cases x.toNat.testBit d with
  | false => exact ⟨fun _ => rfl, fun _ => by rw [if_neg (by decide)]⟩
  | true => exact ⟨fun g => by rw [if_pos rfl] at g; exact absurd g (by decide), fun g => by cases g⟩
theorem shl_tb : ∀ d : Fin 10, oShl 1 (d.val : Int) = ((2 ^ d.val : Nat) : Int) := by decide +kernel
theorem or_bit {x : Int} {d : Nat} (hx : 0 ≤ x ∧ x < 1024) (hd : d < 10) : 0 ≤ oOr x (oShl 1 (d : Int)) ∧ oOr x (oShl 1 (d : Int)) < 1024 ∧ (oOr x (oShl 1 (d : Int))).toNat = x.toNat ||| 2 ^ d := by
  have e := shl_tb ⟨d, hd⟩
  have e : oShl 1 (d : Int) = ((2 ^ d : Nat) : Int) := e
  have l1 : (2 : Nat) ^ d < 2 ^ 10 := Nat.pow_lt_pow_right (by decide) hd
  have l2 : x.toNat < 2 ^ 10 := by
    have : (2 : Nat) ^ 10 = 1024 := by decide
    omega
  have l3 := Nat.or_lt_two_pow l2 l1
  have p10 : (2 : Nat) ^ 10 = 1024 := by decide
  have ex : x = ((x.toNat : Nat) : Int) := by omega
  rw [e, ex, oOr_nat (by omega) (by omega), Int.toNat_natCast, Int.toNat_natCast]
  exact ⟨by omega, by omega, rfl⟩
theorem tb_or {x d e : Nat} : (x ||| 2 ^ d).testBit e = (x.testBit e || decide (d = e)) := by
  rw [Nat.testBit_or, Nat.testBit_two_pow]
theorem bc_or : ∀ m : Fin 16, ∀ t : Fin 4, m.val.testBit t.val = false → bc (oOr (m.val : Int) (oShl 1 (t.val : Int))) = bc (m.val : Int) + 1 ∧ oOr (m.val : Int) (oShl 1 (t.val : Int)) < 16 := by decide +kernel
theorem ct_up {g : Nat → Int} {s n : Nat} {q v : Int} : ∀ m, m ≤ n → ct (up g (s + n) v) s q m = ct g s q m := by
  intro m
  induction m with
  | zero => intro _; rfl
  | succ m ih =>
    intro h
    show ct (up g (s + n) v) s q m + (if up g (s + n) v (s + m) = q then 1 else 0) = ct g s q m + (if g (s + m) = q then 1 else 0)
    rw [ih (by omega), up_ne _ _ (by omega)]
theorem ct_up1 {g : Nat → Int} {s n : Nat} {q v : Int} : ct (up g (s + n) v) s q (n + 1) = ct g s q n + (if v = q then 1 else 0) := by
  show ct (up g (s + n) v) s q n + (if up g (s + n) v (s + n) = q then 1 else 0) = _
  rw [ct_up n (Nat.le_refl n), up_same]
def MDr (b : Nat) (A T : St) : Prop := ∀ k : Nat, (k : Int) < T 1 1 → A 6 (10 * b + k) = T 8 k ∧ A 7 (10 * b + k) = T 9 k ∧ A 9 (10 * b + k) = T 10 k
def MLs (b : Nat) (A T : St) : Prop := (0 ≤ T 0 15 ∧ T 0 15 < 1024) ∧ (∀ k : Nat, (k : Int) < T 1 1 → (A 10 (10 * b + k) = 0 ↔ (T 0 15).toNat.testBit k = false)) ∧ ∀ k : Nat, T 1 1 ≤ (k : Int) → (T 0 15).toNat.testBit k = false
def MKy (b : Nat) (A T : St) : Prop := (∀ k : Nat, (k : Int) < T 1 2 → A 13 (4 * b + k) = T 24 k ∧ A 14 (4 * b + k) = T 25 k ∧ ∀ i : Nat, (i : Int) < T 25 k → A 15 (40 * b + 10 * k + i) = T (27 + k) i) ∧ ∀ k : Nat, k < 4 → T 1 2 ≤ (k : Int) → T 25 k = 0
def MPr (b : Nat) (A T : St) : Prop := ∀ k : Nat, (k : Int) < T 1 3 → A 18 (3 * b + k) = T 23 k
def MTn (b : Nat) (A T : St) : Prop := ∀ k : Nat, (k : Int) < T 1 4 → A 21 (4 * b + k) = T 11 k
def MWn (b : Nat) (A T : St) : Prop := ∀ p : Nat, p < 3 → (0 ≤ T 12 p ∧ T 12 p < 16 ∧ bc (T 12 p) ≤ 2) ∧ ct (A 23) (6 * b) (p : Int) (T 1 5).toNat = bc (T 12 p) ∧ ∀ t : Nat, t < 4 → ((T 12 p).toNat.testBit t = true ↔ ∃ i : Nat, (i : Int) < T 1 5 ∧ A 23 (6 * b + i) = (p : Int) ∧ A 24 (6 * b + i) = (t : Int))
def MMu (b : Nat) (A T : St) : Prop := ∀ k : Nat, (k : Int) < T 1 6 → A 26 (6 * b + k) = T 13 k ∧ A 27 (6 * b + k) = T 14 k ∧ A 28 (6 * b + k) = T 15 k
def MBa (b : Nat) (A T : St) : Prop := ∀ k : Nat, (k : Int) < T 1 7 → A 30 (6 * b + k) = T 16 k
def MCn (b : Nat) (A T : St) : Prop := A 22 b = T 1 5 ∧ A 25 b = T 1 6 ∧ A 29 b = T 1 7
def MR (b : Nat) (A T : St) : Prop := NKA b A T ∧ MCn b A T ∧ TD T ∧ NB b A T ∧ MDr b A T ∧ MLs b A T ∧ MKy b A T ∧ MPr b A T ∧ MTn b A T ∧ MWn b A T ∧ MMu b A T ∧ MBa b A T
theorem MR.rq {b : Nat} {A u T : St} (h : MR b A T) (g : rq u A) : MR b u T := by
  have e : u = fun j => bif Nat.beq j 0 then u 0 else A j := by
    funext j
    cases j with
    | zero => rfl
    | succ j => exact g (j + 1) (by omega)
  rw [e]
  exact h
theorem NKx.add {c x w : Int} {o n : Nat} {g h : Nat → Int} (hk : NKx c o g h) (hc : c = (n : Int)) (hw : WR x w) : NKx (c + 1) o (up g (o + n) x) (up h n w) := by
  intro j hj
  by_cases e : j = n
  · subst e
    rw [up_same, up_same]
    exact hw
  · rw [up_ne _ _ (by omega), up_ne _ _ e]
    exact hk j (by omega)
theorem NKx.out {c x : Int} {o n : Nat} {g h : Nat → Int} (hk : NKx c o g h) (hc : c ≤ (n : Int)) : NKx c o (up g (o + n) x) h := by
  intro j hj
  rw [up_ne _ _ (by omega)]
  exact hk j hj
theorem fnd_add {g : Nat → Int} {w w' : Int} {n : Nat} (h : w' ≠ w) : fnd (up g n w) w' (n + 1) 0 = fnd g w' n 0 := by
  have e : fnd (up g n w) w' n 0 = fnd g w' n 0 := fnd_congr _ _ (fun k _ hk => by rw [up_ne _ _ (by omega)])
  rw [fnd_snoc, e, Nat.zero_add, up_same, if_neg (show ¬ w = w' from fun g => h g.symm)]
  split
  · rename_i g; exact g.symm
  · rfl
theorem TD.add0 {T : St} {w : Int} (h : TD T) (hn : 0 ≤ T 1 0) (hf : sFind T 1 w = -1) : TD (sAdd T 0 w) := by
  intro w'
  have e1 : sFind (sAdd T 0 w) 1 w' = sFind T 1 w' := rfl
  by_cases hw : w' = w
  · subst hw
    exact Or.inr (e1.trans hf)
  · have e0 : sFind (sAdd T 0 w) 0 w' = sFind T 0 w' := by
      show fnd (up (T 3) (T 1 0).toNat w) w' (T 1 0 + 1).toNat 0 = fnd (T 3) w' (T 1 0).toNat 0
      rw [show (T 1 0 + 1).toNat = (T 1 0).toNat + 1 by omega]
      exact fnd_add hw
    rw [e0, e1]
    exact h w'
theorem TD.add1 {T : St} {w a c m : Int} (h : TD T) (hn : 0 ≤ T 1 1) (hf : sFind T 0 w = -1) : TD (sDoorAdd T w a c m) := by
  intro w'
  have e0 : sFind (sDoorAdd T w a c m) 0 w' = sFind T 0 w' := rfl
  by_cases hw : w' = w
  · subst hw
    exact Or.inl (e0.trans hf)
  · have e1 : sFind (sDoorAdd T w a c m) 1 w' = sFind T 1 w' := by
      show fnd (up (T 4) (T 1 1).toNat w) w' (T 1 1 + 1).toNat 0 = fnd (T 4) w' (T 1 1).toNat 0
      rw [show (T 1 1 + 1).toNat = (T 1 1).toNat + 1 by omega]
      exact fnd_add hw
    rw [e0, e1]
    exact h w'
/-- the keys' rows are all that isn't a row of its own number -/
theorem MKy.cg {b : Nat} {A A' T T' : St} (h : MKy b A T) (a3 : A' 13 = A 13) (a4 : A' 14 = A 14) (a5 : A' 15 = A 15) (t1 : T' 1 2 = T 1 2) (t4 : T' 24 = T 24) (t5 : T' 25 = T 25) (t7 : ∀ k, T' (27 + k) = T (27 + k)) : MKy b A' T' := by
  unfold MKy
  simp only [a3, a4, a5, t1, t4, t5, t7]
  exact h
theorem MR_place {b n : Nat} {A T : St} {x w : Int} (h : MR b A T) (hn : T 1 0 = (n : Int)) (hw : WR x w) (hf : sFind T 1 w = -1) : MR b (stA (stA A 3 (8 * b + n) x) 2 b ((n : Int) + 1)) (sAdd T 0 w) := by
  obtain ⟨⟨k0, k1, k2, k3, k4⟩, hc, ht, hB, hd, hl, hk, hp, hh, hwn, hm, hb⟩ := h
  have en : (T 1 0).toNat = n := by omega
  refine ⟨⟨⟨?_, ?_⟩, k1, k2, k3, k4⟩, hc, ht.add0 (by omega) hf, hB, hd, hl, hk.cg rfl rfl rfl rfl rfl rfl (fun k => ?_), hp, hh, hwn, hm, hb⟩
  · show up (A 2) b ((n : Int) + 1) b = T 1 0 + 1
    rw [up_same, hn]
  · show NKx (T 1 0 + 1) (8 * b) (up (A 3) (8 * b + n) x) (up (T 3) (T 1 0).toNat w)
    rw [en]
    exact k0.2.add hn hw
  · unfold sAdd
    rw [stA_ne _ _ (by omega), stA_ne _ _ (by omega)]
theorem MR_door {b n : Nat} {A T : St} {x w a c m v : Int} (h : MR b A T) (hn : T 1 1 = (n : Int)) (hw : WR x w) (hf : sFind T 0 w = -1) (hv : v = 0 ↔ m ≠ 0) : MR b (stA (stA (stA (stA (stA (stA (stA A 5 (10 * b + n) x) 6 (10 * b + n) a) 7 (10 * b + n) c) 8 (10 * b + n) v) 9 (10 * b + n) m) 10 (10 * b + n) 0) 4 b ((n : Int) + 1)) (sDoorAdd T w a c m) := by
  obtain ⟨⟨k0, k1, k2, k3, k4⟩, hc, ht, hB, hd, hl, hk, hp, hh, hwn, hm, hb⟩ := h
  have en : (T 1 1).toNat = n := by omega
  refine ⟨⟨k0, ⟨?_, ?_⟩, k2, k3, k4⟩, hc, ht.add1 (by omega) hf, ?_, ?_, ⟨hl.1, ?_, ?_⟩, hk.cg rfl rfl rfl rfl rfl rfl (fun k => ?_), hp, hh, hwn, hm, hb⟩
  · show up (A 4) b ((n : Int) + 1) b = T 1 1 + 1
    rw [up_same, hn]
  · show NKx (T 1 1 + 1) (10 * b) (up (A 5) (10 * b + n) x) (up (T 4) (T 1 1).toNat w)
    rw [en]
    exact k1.2.add hn hw
  · intro k hk2
    have hk2 : (k : Int) < T 1 1 + 1 := hk2
    show up (A 8) (10 * b + n) v (10 * b + k) = 0 ↔ up (T 10) (T 1 1).toNat m k ≠ 0
    rw [en]
    by_cases e : k = n
    · subst e
      rw [up_same, up_same]
      exact hv
    · rw [up_ne _ _ (by omega), up_ne _ _ e]
      exact hB k (by omega)
  · intro k hk2
    have hk2 : (k : Int) < T 1 1 + 1 := hk2
    show up (A 6) (10 * b + n) a (10 * b + k) = up (T 8) (T 1 1).toNat a k ∧ up (A 7) (10 * b + n) c (10 * b + k) = up (T 9) (T 1 1).toNat c k ∧ up (A 9) (10 * b + n) m (10 * b + k) = up (T 10) (T 1 1).toNat m k
    rw [en]
    by_cases e : k = n
    · subst e
      simp only [up_same]
      exact ⟨trivial, trivial, trivial⟩
    · simp only [up_ne _ _ e, up_ne _ _ (show 10 * b + k ≠ 10 * b + n by omega)]
      exact hd k (by omega)
  · intro k hk2
    have hk2 : (k : Int) < T 1 1 + 1 := hk2
    show up (A 10) (10 * b + n) 0 (10 * b + k) = 0 ↔ (T 0 15).toNat.testBit k = false
    by_cases e : k = n
    · subst e
      rw [up_same]
      exact ⟨fun _ => hl.2.2 k (by omega), fun _ => rfl⟩
    · rw [up_ne _ _ (by omega)]
      exact hl.2.1 k (by omega)
  · intro k hk2
    have hk2 : T 1 1 + 1 ≤ (k : Int) := hk2
    exact hl.2.2 k (by omega)
  · unfold sDoorAdd sAdd
    rw [stA_ne _ _ (by omega), stA_ne _ _ (by omega), stA_ne _ _ (by omega), stA_ne _ _ (by omega), stA_ne _ _ (by omega)]
theorem MR_key {b n : Nat} {A T : St} {x w a : Int} (h : MR b A T) (hn : T 1 2 = (n : Int)) (hn4 : n < 4) (hw : WR x w) : MR b (stA (stA (stA (stA A 12 (4 * b + n) x) 13 (4 * b + n) a) 14 (4 * b + n) 0) 11 b ((n : Int) + 1)) (sKeyAdd T w a) := by
  obtain ⟨⟨k0, k1, k2, k3, k4⟩, hc, ht, hB, hd, hl, hk, hp, hh, hwn, hm, hb⟩ := h
  have en : (T 1 2).toNat = n := by omega
  refine ⟨⟨k0, k1, ⟨?_, ?_⟩, k3, k4⟩, hc, ht, hB, hd, hl, ⟨?_, ?_⟩, hp, hh, hwn, hm, hb⟩
  · show up (A 11) b ((n : Int) + 1) b = T 1 2 + 1
    rw [up_same, hn]
  · show NKx (T 1 2 + 1) (4 * b) (up (A 12) (4 * b + n) x) (up (T 5) (T 1 2).toNat w)
    rw [en]
    exact k2.2.add hn hw
  · intro k hk2
    have hk2 : (k : Int) < T 1 2 + 1 := hk2
    have e7 : sKeyAdd T w a (27 + k) = T (27 + k) := by
      unfold sKeyAdd sAdd
      rw [stA_ne _ _ (by omega), stA_ne _ _ (by omega), stA_ne _ _ (by omega)]
    rw [e7]
    show up (A 13) (4 * b + n) a (4 * b + k) = up (T 24) (T 1 2).toNat a k ∧ up (A 14) (4 * b + n) 0 (4 * b + k) = T 25 k ∧ ∀ i : Nat, (i : Int) < T 25 k → A 15 (40 * b + 10 * k + i) = T (27 + k) i
    rw [en]
    by_cases e : k = n
    · subst e
      have z := hk.2 k hn4 (by omega)
      rw [up_same, up_same, up_same, z]
      exact ⟨rfl, rfl, fun i hi => absurd hi (by omega)⟩
    · rw [up_ne _ _ (by omega), up_ne _ _ e, up_ne _ _ (by omega)]
      exact hk.1 k (by omega)
  · intro k hk2 hk3
    have hk3 : T 1 2 + 1 ≤ (k : Int) := hk3
    exact hk.2 k hk2 (by omega)
theorem MR_person {b n : Nat} {A T : St} {x w a : Int} (h : MR b A T) (hn : T 1 3 = (n : Int)) (hw : WR x w) : MR b (stA (stA (stA A 17 (3 * b + n) x) 18 (3 * b + n) a) 16 b ((n : Int) + 1)) (sPersonAdd T w a) := by
  obtain ⟨⟨k0, k1, k2, k3, k4⟩, hc, ht, hB, hd, hl, hk, hp, hh, hwn, hm, hb⟩ := h
  have en : (T 1 3).toNat = n := by omega
  refine ⟨⟨k0, k1, k2, ⟨?_, ?_⟩, k4⟩, hc, ht, hB, hd, hl, hk.cg rfl rfl rfl rfl rfl rfl (fun k => ?_), ?_, hh, hwn, hm, hb⟩
  · show up (A 16) b ((n : Int) + 1) b = T 1 3 + 1
    rw [up_same, hn]
  · show NKx (T 1 3 + 1) (3 * b) (up (A 17) (3 * b + n) x) (up (T 6) (T 1 3).toNat w)
    rw [en]
    exact k3.2.add hn hw
  · unfold sPersonAdd sAdd
    rw [stA_ne _ _ (by omega), stA_ne _ _ (by omega), stA_ne _ _ (by omega)]
  · intro k hk2
    have hk2 : (k : Int) < T 1 3 + 1 := hk2
    show up (A 18) (3 * b + n) a (3 * b + k) = up (T 23) (T 1 3).toNat a k
    rw [en]
    by_cases e : k = n
    · subst e
      rw [up_same, up_same]
    · rw [up_ne _ _ (by omega), up_ne _ _ e]
      exact hp k (by omega)
theorem MR_thing {b n : Nat} {A T : St} {x w a : Int} (h : MR b A T) (hn : T 1 4 = (n : Int)) (hw : WR x w) : MR b (stA (stA (stA A 20 (4 * b + n) x) 21 (4 * b + n) a) 19 b ((n : Int) + 1)) (sThingAdd T w a) := by
  obtain ⟨⟨k0, k1, k2, k3, k4⟩, hc, ht, hB, hd, hl, hk, hp, hh, hwn, hm, hb⟩ := h
  have en : (T 1 4).toNat = n := by omega
  refine ⟨⟨k0, k1, k2, k3, ⟨?_, ?_⟩⟩, hc, ht, hB, hd, hl, hk.cg rfl rfl rfl rfl rfl rfl (fun k => ?_), hp, ?_, hwn, hm, hb⟩
  · show up (A 19) b ((n : Int) + 1) b = T 1 4 + 1
    rw [up_same, hn]
  · show NKx (T 1 4 + 1) (4 * b) (up (A 20) (4 * b + n) x) (up (T 7) (T 1 4).toNat w)
    rw [en]
    exact k4.2.add hn hw
  · unfold sThingAdd sAdd
    rw [stA_ne _ _ (by omega), stA_ne _ _ (by omega), stA_ne _ _ (by omega)]
  · intro k hk2
    have hk2 : (k : Int) < T 1 4 + 1 := hk2
    show up (A 21) (4 * b + n) a (4 * b + k) = up (T 11) (T 1 4).toNat a k
    rw [en]
    by_cases e : k = n
    · subst e
      rw [up_same, up_same]
    · rw [up_ne _ _ (by omega), up_ne _ _ e]
      exact hh k (by omega)
theorem MR_must {b n : Nat} {A T : St} {d x y : Int} (h : MR b A T) (hn : T 1 6 = (n : Int)) : MR b (stA (stA (stA (stA A 26 (6 * b + n) d) 27 (6 * b + n) x) 28 (6 * b + n) y) 25 b ((n : Int) + 1)) (sMustAdd T d x y) := by
  obtain ⟨⟨k0, k1, k2, k3, k4⟩, hc, ht, hB, hd, hl, hk, hp, hh, hwn, hm, hb⟩ := h
  have en : (T 1 6).toNat = n := by omega
  refine ⟨⟨k0, k1, k2, k3, k4⟩, ⟨hc.1, ?_, hc.2.2⟩, ht, hB, hd, hl, hk.cg rfl rfl rfl rfl rfl rfl (fun k => ?_), hp, hh, hwn, ?_, hb⟩
  · show up (A 25) b ((n : Int) + 1) b = T 1 6 + 1
    rw [up_same, hn]
  · unfold sMustAdd
    rw [stA_ne _ _ (by omega), stA_ne _ _ (by omega), stA_ne _ _ (by omega), stA_ne _ _ (by omega)]
  · intro k hk2
    have hk2 : (k : Int) < T 1 6 + 1 := hk2
    show up (A 26) (6 * b + n) d (6 * b + k) = up (T 13) (T 1 6).toNat d k ∧ up (A 27) (6 * b + n) x (6 * b + k) = up (T 14) (T 1 6).toNat x k ∧ up (A 28) (6 * b + n) y (6 * b + k) = up (T 15) (T 1 6).toNat y k
    rw [en]
    by_cases e : k = n
    · subst e
      simp only [up_same]
      exact ⟨trivial, trivial, trivial⟩
    · simp only [up_ne _ _ e, up_ne _ _ (show 6 * b + k ≠ 6 * b + n by omega)]
      exact hm k (by omega)
theorem MR_bar {b n : Nat} {A T : St} {d x y : Int} (h : MR b A T) (hn : T 1 7 = (n : Int)) : MR b (stA (stA A 30 (6 * b + n) d) 29 b ((n : Int) + 1)) (sBarAdd T d x y) := by
  obtain ⟨⟨k0, k1, k2, k3, k4⟩, hc, ht, hB, hd, hl, hk, hp, hh, hwn, hm, hb⟩ := h
  have en : (T 1 7).toNat = n := by omega
  refine ⟨⟨k0, k1, k2, k3, k4⟩, ⟨hc.1, hc.2.1, ?_⟩, ht, hB, hd, hl, hk.cg rfl rfl rfl rfl rfl rfl (fun k => ?_), hp, hh, hwn, hm, ?_⟩
  · show up (A 29) b ((n : Int) + 1) b = T 1 7 + 1
    rw [up_same, hn]
  · unfold sBarAdd
    rw [stA_ne _ _ (by omega), stA_ne _ _ (by omega), stA_ne _ _ (by omega), stA_ne _ _ (by omega)]
  · intro k hk2
    have hk2 : (k : Int) < T 1 7 + 1 := hk2
    show up (A 30) (6 * b + n) d (6 * b + k) = up (T 16) (T 1 7).toNat d k
    rw [en]
    by_cases e : k = n
    · subst e
      rw [up_same, up_same]
    · rw [up_ne _ _ (by omega), up_ne _ _ e]
      exact hb k (by omega)
theorem MR_has {b n : Nat} {A T : St} {a : Int} (h : MR b A T) : MR b (stA A 13 (4 * b + n) a) (stA T 24 n a) := by
  obtain ⟨⟨k0, k1, k2, k3, k4⟩, hc, ht, hB, hd, hl, hk, hp, hh, hwn, hm, hb⟩ := h
  refine ⟨⟨k0, k1, k2, k3, k4⟩, hc, ht, hB, hd, hl, ⟨?_, hk.2⟩, hp, hh, hwn, hm, hb⟩
  intro k hk2
  have e7 : stA T 24 n a (27 + k) = T (27 + k) := stA_ne _ _ (by omega)
  rw [e7]
  show up (A 13) (4 * b + n) a (4 * b + k) = up (T 24) n a k ∧ A 14 (4 * b + k) = T 25 k ∧ ∀ i : Nat, (i : Int) < T 25 k → A 15 (40 * b + 10 * k + i) = T (27 + k) i
  refine ⟨?_, (hk.1 k hk2).2⟩
  by_cases e : k = n
  · subst e
    rw [up_same, up_same]
  · rw [up_ne _ _ (by omega), up_ne _ _ e]
    exact (hk.1 k hk2).1
theorem MR_lost {b n : Nat} {A T : St} (h : MR b A T) (hn : (n : Int) < T 1 1) (h10 : n < 10) : MR b (stA A 10 (10 * b + n) 1) (stA T 0 15 (oOr (T 0 15) (oShl 1 (n : Int)))) := by
  obtain ⟨⟨k0, k1, k2, k3, k4⟩, hc, ht, hB, hd, hl, hk, hp, hh, hwn, hm, hb⟩ := h
  have o := or_bit hl.1 h10
  refine ⟨⟨k0, k1, k2, k3, k4⟩, hc, ht, hB, hd, ⟨⟨o.1, o.2.1⟩, ?_, ?_⟩, hk.cg rfl rfl rfl rfl rfl rfl (fun k => stA_ne _ _ (by omega)), hp, hh, hwn, hm, hb⟩
  · intro k hk2
    have hk2 : (k : Int) < T 1 1 := hk2
    show up (A 10) (10 * b + n) 1 (10 * b + k) = 0 ↔ (oOr (T 0 15) (oShl 1 (n : Int))).toNat.testBit k = false
    rw [o.2.2, tb_or]
    by_cases e : k = n
    · subst e
      rw [up_same]
      simp
    · rw [up_ne _ _ (by omega), show decide (n = k) = false from decide_eq_false (fun g => e g.symm), Bool.or_false]
      exact hl.2.1 k hk2
  · intro k hk2
    have hk2 : T 1 1 ≤ (k : Int) := hk2
    show (oOr (T 0 15) (oShl 1 (n : Int))).toNat.testBit k = false
    rw [o.2.2, tb_or, show decide (n = k) = false from decide_eq_false (fun g => by omega), Bool.or_false]
    exact hl.2.2 k hk2
theorem MR_shut {b n m : Nat} {A T : St} {d : Int} (h6 : ∀ k, A 14 k ≤ 6) (h : MR b A T) (hn : (n : Int) < T 1 2) (hm2 : T 25 n = (m : Int)) (hm6 : m < 6) : MR b (stA (stA A 15 (40 * b + 10 * n + m) d) 14 (4 * b + n) ((m : Int) + 1)) (stA (stA T (27 + n) m d) 25 n ((m : Int) + 1)) := by
  obtain ⟨⟨k0, k1, k2, k3, k4⟩, hc, ht, hB, hd, hl, hk, hp, hh, hwn, hm, hb⟩ := h
  have rw27 : ∀ j, j < 27 → j ≠ 25 → stA (stA T (27 + n) m d) 25 n ((m : Int) + 1) j = T j := fun j h1 h2 => by rw [stA_ne _ _ h2, stA_ne _ _ (by omega)]
  have r1 := rw27 1 (by decide) (by decide)
  have r0 := rw27 0 (by decide) (by decide)
  have r25 : stA (stA T (27 + n) m d) 25 n ((m : Int) + 1) 25 = up (T 25) n ((m : Int) + 1) := by rw [stA_same, stA_ne _ _ (by omega)]
  have ns : ∀ j w, j < 5 → sFind (stA (stA T (27 + n) m d) 25 n ((m : Int) + 1)) j w = sFind T j w := by
    intro j w hj
    unfold sFind
    rw [r1, rw27 (3 + j) (by omega) (by omega)]
  refine ⟨⟨?_, ?_, ?_, ?_, ?_⟩, ?_, ?_, ?_, ?_, ?_, ⟨?_, ?_⟩, ?_, ?_, ?_, ?_, ?_⟩
  · unfold NK0; rw [r1, rw27 3 (by decide) (by decide)]; exact k0
  · unfold NK1; rw [r1, rw27 4 (by decide) (by decide)]; exact k1
  · unfold NK2; rw [r1, rw27 5 (by decide) (by decide)]; exact k2
  · unfold NK3; rw [r1, rw27 6 (by decide) (by decide)]; exact k3
  · unfold NK4; rw [r1, rw27 7 (by decide) (by decide)]; exact k4
  · unfold MCn; rw [r1]; exact hc
  · intro w; rw [ns 0 w (by decide), ns 1 w (by decide)]; exact ht w
  · unfold NB; rw [r1, rw27 10 (by decide) (by decide)]; exact hB
  · unfold MDr; rw [r1, rw27 8 (by decide) (by decide), rw27 9 (by decide) (by decide), rw27 10 (by decide) (by decide)]; exact hd
  · unfold MLs; rw [r1, r0]; exact hl
  · intro k hk2
    rw [r1] at hk2
    rw [rw27 24 (by decide) (by decide), r25]
    show A 13 (4 * b + k) = T 24 k ∧ up (A 14) (4 * b + n) ((m : Int) + 1) (4 * b + k) = up (T 25) n ((m : Int) + 1) k ∧ ∀ i : Nat, (i : Int) < up (T 25) n ((m : Int) + 1) k → up (A 15) (40 * b + 10 * n + m) d (40 * b + 10 * k + i) = stA (stA T (27 + n) m d) 25 n ((m : Int) + 1) (27 + k) i
    have g := hk.1 k hk2
    refine ⟨g.1, ?_, ?_⟩
    · by_cases e : k = n
      · subst e; rw [up_same, up_same]
      · rw [up_ne _ _ (by omega), up_ne _ _ e]; exact g.2.1
    · intro i hi
      rw [stA_ne _ _ (show 27 + k ≠ 25 by omega)]
      by_cases e : k = n
      · subst e
        rw [up_same] at hi
        rw [stA_same]
        by_cases e2 : i = m
        · subst e2; rw [up_same, up_same]
        · rw [up_ne _ _ (by omega), up_ne _ _ e2]
          exact g.2.2 i (by omega)
      · rw [up_ne _ _ e] at hi
        rw [stA_ne _ _ (by omega)]
        have l6 : T 25 k ≤ 6 := by rw [← g.2.1]; exact h6 _
        rw [up_ne _ _ (show 40 * b + 10 * k + i ≠ 40 * b + 10 * n + m by omega)]
        exact g.2.2 i hi
  · intro k hk2 hk3
    rw [r1] at hk3
    rw [r25, up_ne _ _ (by omega)]
    exact hk.2 k hk2 hk3
  · unfold MPr; rw [r1, rw27 23 (by decide) (by decide)]; exact hp
  · unfold MTn; rw [r1, rw27 11 (by decide) (by decide)]; exact hh
  · unfold MWn; rw [r1, rw27 12 (by decide) (by decide)]; exact hwn
  · unfold MMu; rw [r1, rw27 13 (by decide) (by decide), rw27 14 (by decide) (by decide), rw27 15 (by decide) (by decide)]; exact hm
  · unfold MBa; rw [r1, rw27 16 (by decide) (by decide)]; exact hb
theorem MR_wants {b n p t : Nat} {A T : St} (h : MR b A T) (hn : T 1 5 = (n : Int)) (hp3 : p < 3) (ht4 : t < 4) (hbc : bc (T 12 p) < 2) (hbit : (T 12 p).toNat.testBit t = false) : MR b (stA (stA (stA A 23 (6 * b + n) (p : Int)) 24 (6 * b + n) (t : Int)) 22 b ((n : Int) + 1)) (stA (stA T 12 p (oOr (T 12 p) (oShl 1 (t : Int)))) 1 5 (T 1 5 + 1)) := by
  obtain ⟨⟨k0, k1, k2, k3, k4⟩, hc, ht, hB, hd, hl, hk, hp, hh, hwn, hm, hb⟩ := h
  refine ⟨⟨k0, k1, k2, k3, k4⟩, ⟨?_, hc.2⟩, ht, hB, hd, hl, hk.cg rfl rfl rfl rfl rfl rfl (fun k => by rw [stA_ne _ _ (by omega), stA_ne _ _ (by omega)]), hp, hh, ?_, hm, hb⟩
  · show up (A 22) b ((n : Int) + 1) b = T 1 5 + 1
    rw [up_same, hn]
  · intro q hq
    show (0 ≤ up (T 12) p (oOr (T 12 p) (oShl 1 (t : Int))) q ∧ up (T 12) p (oOr (T 12 p) (oShl 1 (t : Int))) q < 16 ∧ bc (up (T 12) p (oOr (T 12 p) (oShl 1 (t : Int))) q) ≤ 2) ∧ ct (up (A 23) (6 * b + n) (p : Int)) (6 * b) (q : Int) (T 1 5 + 1).toNat = bc (up (T 12) p (oOr (T 12 p) (oShl 1 (t : Int))) q) ∧ ∀ t2 : Nat, t2 < 4 → ((up (T 12) p (oOr (T 12 p) (oShl 1 (t : Int))) q).toNat.testBit t2 = true ↔ ∃ i : Nat, (i : Int) < T 1 5 + 1 ∧ up (A 23) (6 * b + n) (p : Int) (6 * b + i) = (q : Int) ∧ up (A 24) (6 * b + n) (t : Int) (6 * b + i) = (t2 : Int))
    have e1 : (T 1 5 + 1).toNat = n + 1 := by omega
    have e0 : (T 1 5).toNat = n := by omega
    rw [e1, ct_up1]
    have old : ∀ (t2 : Nat), (∃ i : Nat, (i : Int) < T 1 5 + 1 ∧ up (A 23) (6 * b + n) (p : Int) (6 * b + i) = (q : Int) ∧ up (A 24) (6 * b + n) (t : Int) (6 * b + i) = (t2 : Int)) ↔ ((p = q ∧ t = t2) ∨ ∃ i : Nat, (i : Int) < T 1 5 ∧ A 23 (6 * b + i) = (q : Int) ∧ A 24 (6 * b + i) = (t2 : Int)) := by
      intro t2
      constructor
      · rintro ⟨i, hi, g1, g2⟩
        by_cases e : i = n
        · subst e
          rw [up_same] at g1 g2
          exact Or.inl ⟨by omega, by omega⟩
        · rw [up_ne _ _ (by omega)] at g1 g2
          exact Or.inr ⟨i, by omega, g1, g2⟩
      · rintro (⟨g1, g2⟩ | ⟨i, hi, g1, g2⟩)
        · exact ⟨n, by omega, by rw [up_same, g1], by rw [up_same, g2]⟩
        · exact ⟨i, by omega, by rw [up_ne _ _ (by omega)]; exact g1, by rw [up_ne _ _ (by omega)]; exact g2⟩
    have w := hwn q hq
    rw [e0] at w
    by_cases e : q = p
    · subst e
      have bo := bc_or ⟨(T 12 q).toNat, by omega⟩ ⟨t, ht4⟩ hbit
      simp only [show (((T 12 q).toNat : Nat) : Int) = T 12 q by omega] at bo
      have o := or_bit (x := T 12 q) (d := t) ⟨by omega, by omega⟩ (by omega)
      rw [up_same, if_pos rfl]
      refine ⟨⟨o.1, bo.2, by rw [bo.1]; omega⟩, by rw [bo.1, w.2.1], fun t2 h2 => ?_⟩
      rw [old, o.2.2, tb_or, ← (w.2.2 t2 h2)]
      by_cases e2 : t = t2
      · simp [e2]
      · simp [e2]
    · rw [up_ne _ _ e, if_neg (by omega), Int.add_zero]
      refine ⟨w.1, w.2.1, fun t2 h2 => ?_⟩
      rw [old, w.2.2 t2 h2]
      constructor
      · exact Or.inr
      · rintro (⟨g, _⟩ | g)
        · exact absurd g.symm e
        · exact g
