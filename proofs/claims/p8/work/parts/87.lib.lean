/-! fewest keys: a count that falls; a key is left; images: the walk over the tape -/
theorem php : ∀ (m N : Nat) (f : Nat → Int), (∀ c : Nat, c < N → ∃ o, o < m ∧ f o = (c : Int)) → N ≤ m
  | 0, N, f, h => by
    by_cases e : N = 0
    · omega
    · obtain ⟨o, ho, _⟩ := h 0 (by omega)
      omega
  | m + 1, N, f, h => by
    by_cases e : N = 0
    · omega
    · have ih := php m (N - 1) (fun o => if f o = ((N - 1 : Nat) : Int) then f m else f o) (fun c hc => by
        by_cases ec : f m = (c : Int)
        · obtain ⟨o, ho, hf⟩ := h (N - 1) (by omega)
          by_cases eo : o = m
          · subst eo
            omega
          · exact ⟨o, by omega, by show (if f o = ((N - 1 : Nat) : Int) then f m else f o) = _; rw [if_pos hf]; exact ec⟩
        · obtain ⟨o, ho, hf⟩ := h c (by omega)
          by_cases eo : o = m
          · subst eo
            exact absurd hf ec
          · exact ⟨o, by omega, by show (if f o = ((N - 1 : Nat) : Int) then f m else f o) = _; rw [if_neg (by omega)]; exact hf⟩)
      omega
def fv (f : Nat → Int) : Nat → Int
  | 0 => 0
  | m + 1 => fv f m + f m * 8 ^ (6 - m)
def fmz (f : Nat → Int) (m : Int) : Nat := if m < 0 then 0 else ((33554432 - (fv f m.toNat + (f m.toNat + 1) * 8 ^ (6 - m.toNat))) * 8 + (8 - m)).toNat
theorem p8_pos (k : Nat) : (1 : Int) ≤ 8 ^ k := by
  have h : 1 ≤ 8 ^ k := Nat.one_le_pow _ _ (by decide)
  have c : ((8 ^ k : Nat) : Int) = 8 ^ k := by simp
  rw [← c]
  omega
theorem p8_le {k : Nat} (hk : k ≤ 6) : (8 : Int) ^ k ≤ 262144 := by
  have h : 8 ^ k ≤ 8 ^ 6 := Nat.pow_le_pow_right (by decide) hk
  have c : ((8 ^ k : Nat) : Int) = 8 ^ k := by simp
  have d : (8 : Nat) ^ 6 = 262144 := by decide
  rw [← c]
  omega
theorem fv_out {f : Nat → Int} {i : Nat} {v : Int} : ∀ n, n ≤ i → fv (up f i v) n = fv f n
  | 0, _ => rfl
  | n + 1, h => by
    unfold fv
    rw [fv_out n (by omega), up_ne _ _ (show n ≠ i by omega)]
theorem fv_le {f : Nat → Int} : ∀ n : Nat, n ≤ 7 → (∀ i : Nat, i < n → f i ≤ 6) → fv f n ≤ n * 1572864
  | 0, _, _ => by show (0 : Int) ≤ _; omega
  | n + 1, hn, h => by
    have ih := fv_le n (by omega) (fun i hi => h i (by omega))
    have h6 := h n (by omega)
    have p1 := p8_pos (6 - n)
    have p2 := p8_le (k := 6 - n) (by omega)
    have m1 := Int.mul_le_mul_of_nonneg_right h6 (show (0 : Int) ≤ 8 ^ (6 - n) by omega)
    unfold fv
    omega
theorem fm_fwd {f g : Nat → Int} {m w : Int} (hm : 0 ≤ m ∧ m ≤ 5) (hf : ∀ i : Nat, (i : Int) < m → f i ≤ 6) (hw : f m.toNat + 1 ≤ w ∧ w ≤ 6) (hg : g = up (up f m.toNat w) (m + 1).toNat (-1)) : fmz g (m + 1) < fmz f m := by
  have e1 : (m + 1).toNat = m.toNat + 1 := by omega
  unfold fmz
  rw [if_neg (by omega), if_neg (by omega), hg, e1, up_same]
  have hv : fv (up (up f m.toNat w) (m.toNat + 1) (-1)) (m.toNat + 1) = fv f m.toNat + w * 8 ^ (6 - m.toNat) := by
    rw [fv_out _ (Nat.le_refl _)]
    show fv (up f m.toNat w) m.toNat + up f m.toNat w m.toNat * 8 ^ (6 - m.toNat) = _
    rw [fv_out _ (Nat.le_refl _), up_same]
  rw [hv]
  have hle := fv_le (f := f) m.toNat (by omega) (fun i hi => hf i (by omega))
  have p1 := p8_pos (6 - m.toNat)
  have p2 := p8_le (k := 6 - m.toNat) (by omega)
  have m1 := Int.mul_le_mul_of_nonneg_right hw.1 (show (0 : Int) ≤ 8 ^ (6 - m.toNat) by omega)
  have m2 := Int.mul_le_mul_of_nonneg_right hw.2 (show (0 : Int) ≤ 8 ^ (6 - m.toNat) by omega)
  have z0 : (-1 + 1 : Int) * 8 ^ (6 - (m.toNat + 1)) = 0 := by simp
  rw [z0]
  omega
theorem fm_bwd {f g : Nat → Int} {m w : Int} (hm : 0 ≤ m ∧ m ≤ 5) (hf : ∀ i : Nat, (i : Int) ≤ m → -1 ≤ f i ∧ f i ≤ 5) (hg : g = up f m.toNat w) : fmz g (m - 1) < fmz f m := by
  have hle := fv_le (f := f) m.toNat (by omega) (fun i hi => by have := hf i (by omega); omega)
  have p1 := p8_pos (6 - m.toNat)
  have p2 := p8_le (k := 6 - m.toNat) (by omega)
  have hfm := hf m.toNat (by omega)
  have m2 := Int.mul_le_mul_of_nonneg_right (show f m.toNat + 1 ≤ 6 by omega) (show (0 : Int) ≤ 8 ^ (6 - m.toNat) by omega)
  unfold fmz
  rw [if_neg (show ¬ m < 0 by omega)]
  by_cases e : m = 0
  · rw [if_pos (by omega)]
    omega
  · rw [if_neg (by omega), hg]
    have e1 : m.toNat = (m - 1).toNat + 1 := by omega
    have hv : fv f m.toNat = fv f (m - 1).toNat + f (m - 1).toNat * 8 ^ (6 - (m - 1).toNat) := by
      rw [e1]
      rfl
    have hp : (8 : Int) ^ (6 - (m - 1).toNat) = 8 * 8 ^ (6 - m.toNat) := by
      have e2 : 6 - (m - 1).toNat = (6 - m.toNat) + 1 := by omega
      rw [e2, Int.pow_succ, Int.mul_comm]
    rw [fv_out _ (by omega), up_ne _ _ (by omega)]
    have hd : (f (m - 1).toNat + 1) * 8 ^ (6 - (m - 1).toNat) = f (m - 1).toNat * 8 ^ (6 - (m - 1).toNat) + 8 * 8 ^ (6 - m.toNat) := by
      rw [Int.add_mul, Int.one_mul, hp]
    rw [hd]
    omega
theorem up_up {f : Nat → Int} {i : Nat} {a b : Int} : up (up f i a) i b = up f i b := by
  funext k
  by_cases e : k = i
  · rw [e, up_same, up_same]
  · rw [up_ne _ _ e, up_ne _ _ e, up_ne _ _ e]
/-- keys below w are all in use -/
def used (f : Nat → Int) (m w : Int) : Prop := ∀ c : Nat, (c : Int) < w → ∃ o : Nat, (o : Int) < m ∧ f o = (c : Int)
theorem used_step {f g : Nat → Int} {m w : Int} (hm : 0 ≤ m) (h : used f m w) (hw : ∃ o : Nat, (o : Int) < m ∧ f o = w) (hg : g = up f m.toNat (w + 1)) : used g m (w + 1) := by
  intro c hc
  have key : ∃ o : Nat, (o : Int) < m ∧ f o = (c : Int) := by
    by_cases e : (c : Int) < w
    · exact h c e
    · obtain ⟨o, h1, h2⟩ := hw
      exact ⟨o, h1, by omega⟩
  obtain ⟨o, h1, h2⟩ := key
  exact ⟨o, h1, by rw [hg, up_ne _ _ (by omega)]; exact h2⟩
theorem used_le {f : Nat → Int} {m w : Int} (hm : 0 ≤ m) (hw : 0 ≤ w) (h : used f m w) : w ≤ m := by
  have := php m.toNat w.toNat f (fun c hc => by
    obtain ⟨o, h1, h2⟩ := h c (by omega)
    exact ⟨o, by omega, h2⟩)
  omega
/-- where key k's bytes begin -/
def wlk (t : Nat → Int) (a : Int) : Nat → Int
  | 0 => a
  | k + 1 => wlk t a k + 2 + t (wlk t a k + 1).toNat
def wgd (t : Nat → Int) (a n : Int) (k : Nat) : Prop := (0 ≤ t (wlk t a k).toNat ∧ t (wlk t a k).toNat ≤ 40) ∧ (0 ≤ t (wlk t a k + 1).toNat ∧ t (wlk t a k + 1).toNat ≤ 6) ∧ wlk t a k + 2 + t (wlk t a k + 1).toNat ≤ n ∧ ∀ i : Nat, (i : Int) < t (wlk t a k + 1).toNat → 0 ≤ t (wlk t a k + 2 + i).toNat ∧ t (wlk t a k + 2 + i).toNat ≤ 9
theorem up_id {f : Nat → Int} {i : Nat} : f = up f i (f i) := by
  funext k
  by_cases e : k = i
  · rw [e, up_same]
  · rw [up_ne _ _ e]
theorem kr_fwd {f g : Nat → Int} {m w x : Int} (hm : 0 ≤ m) (h : ∀ i : Nat, (i : Int) ≤ m → f i < x) (hw : w < x) (hx : 0 ≤ x) (hg : g = up (up f m.toNat w) (m + 1).toNat (-1)) : ∀ i : Nat, (i : Int) ≤ m + 1 → g i < x := by
  intro i hi
  rw [hg]
  by_cases e : i = (m + 1).toNat
  · rw [e, up_same]
    omega
  · rw [up_ne _ _ e]
    by_cases e2 : i = m.toNat
    · rw [e2, up_same]
      exact hw
    · rw [up_ne _ _ e2]
      exact h i (by omega)
theorem kr_bwd {f g : Nat → Int} {m w x : Int} (h : ∀ i : Nat, (i : Int) ≤ m → f i < x) (hg : g = up f m.toNat w) (hm : 0 ≤ m) : ∀ i : Nat, (i : Int) ≤ m - 1 → g i < x := by
  intro i hi
  rw [hg, up_ne _ _ (by omega)]
  exact h i (by omega)
theorem ofI {f : Nat → Int} {P : Int → Prop} {k : Int} (hk : 0 ≤ k) (h : ∀ j : Nat, (j : Int) < k → P (f j)) (hn : P (f k.toNat)) : ∀ j : Nat, (j : Int) < k + 1 → P (f j) := by
  intro j hj
  by_cases e : j = k.toNat
  · rw [e]
    exact hn
  · exact h j (by omega)
theorem rowI {t : Nat → Int} {a k : Int} (hk : 0 ≤ k) (h : ∀ j : Nat, (j : Int) < k → 0 ≤ t (a + j).toNat ∧ t (a + j).toNat ≤ 9) (hn : 0 ≤ t (a + k).toNat ∧ t (a + k).toNat ≤ 9) : ∀ j : Nat, (j : Int) < k + 1 → 0 ≤ t (a + j).toNat ∧ t (a + j).toNat ≤ 9 := by
  intro j hj
  by_cases e : (j : Int) = k
  · rw [e]
    exact hn
  · exact h j (by omega)
theorem wgI {t : Nat → Int} {a n k : Int} (hk : 0 ≤ k) (h : ∀ j : Nat, (j : Int) < k → wgd t a n j) (hn : wgd t a n k.toNat) : ∀ j : Nat, (j : Int) < k + 1 → wgd t a n j := by
  intro j hj
  by_cases e : j = k.toNat
  · rw [e]
    exact hn
  · exact h j (by omega)
theorem wlk_s {t : Nat → Int} {a k x y : Int} (hk : 0 ≤ k) (hx : x = wlk t a k.toNat) (hy : y = t (x + 1).toNat) : x + (2 + y) = wlk t a (k + 1).toNat := by
  have e : (k + 1).toNat = k.toNat + 1 := by omega
  rw [e]
  show _ = wlk t a k.toNat + 2 + t (wlk t a k.toNat + 1).toNat
  rw [← hx, ← hy]
  omega
theorem wgd_mk {t : Nat → Int} {a n k x v y : Int} (hx : x = wlk t a k.toNat) (hv : v = t x.toNat) (hy : y = t (x + 1).toNat) (h1 : 0 ≤ v ∧ v ≤ 40) (h2 : 0 ≤ y ∧ y ≤ 6) (h3 : x + 2 + y ≤ n) (h4 : ∀ i : Nat, (i : Int) < y → 0 ≤ t (x + 2 + i).toNat ∧ t (x + 2 + i).toNat ≤ 9) : wgd t a n k.toNat := by
  unfold wgd
  rw [← hx, ← hv, ← hy]
  exact ⟨h1, h2, h3, h4⟩
theorem wgd_at {t : Nat → Int} {a n k x : Int} (h : wgd t a n k.toNat) (hx : x = wlk t a k.toNat) : (0 ≤ t x.toNat ∧ t x.toNat ≤ 40) ∧ (0 ≤ t (x + 1).toNat ∧ t (x + 1).toNat ≤ 6) ∧ x + 2 + t (x + 1).toNat ≤ n ∧ ∀ i : Nat, (i : Int) < t (x + 1).toNat → 0 ≤ t (x + 2 + i).toNat ∧ t (x + 2 + i).toNat ≤ 9 := by
  unfold wgd at h
  rw [← hx] at h
  exact h
theorem dX12_fits8_0 : decode cX12_fits8 0 = .ok (.iconst 0, 1) := by decide +kernel
theorem dX12_fits8_1 : decode cX12_fits8 1 = .ok (.istore_n 2, 1) := by decide +kernel
theorem dX12_fits8_2 : decode cX12_fits8 2 = .ok (.aload_n 0, 1) := by decide +kernel
theorem dX12_fits8_3 : decode cX12_fits8 3 = .ok (.getfield 238, 3) := by decide +kernel
theorem dX12_fits8_6 : decode cX12_fits8 6 = .ok (.iconst 0, 1) := by decide +kernel
theorem dX12_fits8_7 : decode cX12_fits8 7 = .ok (.iconst (-1), 1) := by decide +kernel
theorem dX12_fits8_8 : decode cX12_fits8 8 = .ok (.iastore, 1) := by decide +kernel
theorem dX12_fits8_9 : decode cX12_fits8 9 = .ok (.iload_n 2, 1) := by decide +kernel
theorem dX12_fits8_10 : decode cX12_fits8 10 = .ok (.ifCond .lt 86, 3) := by decide +kernel
theorem dX12_fits8_13 : decode cX12_fits8 13 = .ok (.iload_n 2, 1) := by decide +kernel
theorem dX12_fits8_14 : decode cX12_fits8 14 = .ok (.aload_n 0, 1) := by decide +kernel
theorem dX12_fits8_15 : decode cX12_fits8 15 = .ok (.getfield 122, 3) := by decide +kernel
theorem dX12_fits8_18 : decode cX12_fits8 18 = .ok (.aload_n 0, 1) := by decide +kernel
theorem dX12_fits8_19 : decode cX12_fits8 19 = .ok (.getfield 48, 3) := by decide +kernel
theorem dX12_fits8_22 : decode cX12_fits8 22 = .ok (.iaload, 1) := by decide +kernel
theorem dX12_fits8_23 : decode cX12_fits8 23 = .ok (.if_icmp .ge 73, 3) := by decide +kernel
theorem dX12_fits8_26 : decode cX12_fits8 26 = .ok (.aload_n 0, 1) := by decide +kernel
theorem dX12_fits8_27 : decode cX12_fits8 27 = .ok (.getfield 238, 3) := by decide +kernel
theorem dX12_fits8_30 : decode cX12_fits8 30 = .ok (.iload_n 2, 1) := by decide +kernel
theorem dX12_fits8_31 : decode cX12_fits8 31 = .ok (.dup2, 1) := by decide +kernel
theorem dX12_fits8_32 : decode cX12_fits8 32 = .ok (.iaload, 1) := by decide +kernel
theorem dX12_fits8_33 : decode cX12_fits8 33 = .ok (.iconst 1, 1) := by decide +kernel
theorem dX12_fits8_34 : decode cX12_fits8 34 = .ok (.iadd, 1) := by decide +kernel
theorem dX12_fits8_35 : decode cX12_fits8 35 = .ok (.iastore, 1) := by decide +kernel
theorem dX12_fits8_36 : decode cX12_fits8 36 = .ok (.aload_n 0, 1) := by decide +kernel
theorem dX12_fits8_37 : decode cX12_fits8 37 = .ok (.getfield 238, 3) := by decide +kernel
theorem dX12_fits8_40 : decode cX12_fits8 40 = .ok (.iload_n 2, 1) := by decide +kernel
theorem dX12_fits8_41 : decode cX12_fits8 41 = .ok (.iaload, 1) := by decide +kernel
theorem dX12_fits8_42 : decode cX12_fits8 42 = .ok (.iload_n 1, 1) := by decide +kernel
theorem dX12_fits8_43 : decode cX12_fits8 43 = .ok (.if_icmp .ge 24, 3) := by decide +kernel
theorem dX12_fits8_46 : decode cX12_fits8 46 = .ok (.aload_n 0, 1) := by decide +kernel
theorem dX12_fits8_47 : decode cX12_fits8 47 = .ok (.iload_n 2, 1) := by decide +kernel
theorem dX12_fits8_48 : decode cX12_fits8 48 = .ok (.invokevirtual 609, 3) := by decide +kernel
theorem dX12_fits8_51 : decode cX12_fits8 51 = .ok (.ifCond .ne 16, 3) := by decide +kernel
theorem dX12_fits8_54 : decode cX12_fits8 54 = .ok (.aload_n 0, 1) := by decide +kernel
theorem dX12_fits8_55 : decode cX12_fits8 55 = .ok (.getfield 238, 3) := by decide +kernel
theorem dX12_fits8_58 : decode cX12_fits8 58 = .ok (.iload_n 2, 1) := by decide +kernel
theorem dX12_fits8_59 : decode cX12_fits8 59 = .ok (.dup2, 1) := by decide +kernel
theorem dX12_fits8_60 : decode cX12_fits8 60 = .ok (.iaload, 1) := by decide +kernel
theorem dX12_fits8_61 : decode cX12_fits8 61 = .ok (.iconst 1, 1) := by decide +kernel
theorem dX12_fits8_62 : decode cX12_fits8 62 = .ok (.iadd, 1) := by decide +kernel
theorem dX12_fits8_63 : decode cX12_fits8 63 = .ok (.iastore, 1) := by decide +kernel
theorem dX12_fits8_64 : decode cX12_fits8 64 = .ok (.goto (-28), 3) := by decide +kernel
theorem dX12_fits8_67 : decode cX12_fits8 67 = .ok (.aload_n 0, 1) := by decide +kernel
theorem dX12_fits8_68 : decode cX12_fits8 68 = .ok (.getfield 238, 3) := by decide +kernel
theorem dX12_fits8_71 : decode cX12_fits8 71 = .ok (.iload_n 2, 1) := by decide +kernel
theorem dX12_fits8_72 : decode cX12_fits8 72 = .ok (.iaload, 1) := by decide +kernel
theorem dX12_fits8_73 : decode cX12_fits8 73 = .ok (.iload_n 1, 1) := by decide +kernel
theorem dX12_fits8_74 : decode cX12_fits8 74 = .ok (.if_icmp .ge 16, 3) := by decide +kernel
theorem dX12_fits8_77 : decode cX12_fits8 77 = .ok (.iinc 2 1, 3) := by decide +kernel
theorem dX12_fits8_80 : decode cX12_fits8 80 = .ok (.aload_n 0, 1) := by decide +kernel
theorem dX12_fits8_81 : decode cX12_fits8 81 = .ok (.getfield 238, 3) := by decide +kernel
theorem dX12_fits8_84 : decode cX12_fits8 84 = .ok (.iload_n 2, 1) := by decide +kernel
theorem dX12_fits8_85 : decode cX12_fits8 85 = .ok (.iconst (-1), 1) := by decide +kernel
theorem dX12_fits8_86 : decode cX12_fits8 86 = .ok (.iastore, 1) := by decide +kernel
theorem dX12_fits8_87 : decode cX12_fits8 87 = .ok (.goto (-78), 3) := by decide +kernel
theorem dX12_fits8_90 : decode cX12_fits8 90 = .ok (.iinc 2 (-1), 3) := by decide +kernel
theorem dX12_fits8_93 : decode cX12_fits8 93 = .ok (.goto (-84), 3) := by decide +kernel
theorem dX12_fits8_96 : decode cX12_fits8 96 = .ok (.iload_n 2, 1) := by decide +kernel
theorem dX12_fits8_97 : decode cX12_fits8 97 = .ok (.ifCond .lt 7, 3) := by decide +kernel
theorem dX12_fits8_100 : decode cX12_fits8 100 = .ok (.iconst 1, 1) := by decide +kernel
theorem dX12_fits8_101 : decode cX12_fits8 101 = .ok (.goto 4, 3) := by decide +kernel
theorem dX12_fits8_104 : decode cX12_fits8 104 = .ok (.iconst 0, 1) := by decide +kernel
theorem dX12_fits8_105 : decode cX12_fits8 105 = .ok (.ireturn, 1) := by decide +kernel
theorem dX12_fewest_0 : decode cX12_fewest 0 = .ok (.iload_n 1, 1) := by decide +kernel
theorem dX12_fewest_1 : decode cX12_fewest 1 = .ok (.iconst (-1), 1) := by decide +kernel
theorem dX12_fewest_2 : decode cX12_fewest 2 = .ok (.if_icmp .eq 24, 3) := by decide +kernel
theorem dX12_fewest_5 : decode cX12_fewest 5 = .ok (.iload_n 1, 1) := by decide +kernel
theorem dX12_fewest_6 : decode cX12_fewest 6 = .ok (.iconst 0, 1) := by decide +kernel
theorem dX12_fewest_7 : decode cX12_fewest 7 = .ok (.aload_n 0, 1) := by decide +kernel
theorem dX12_fewest_8 : decode cX12_fewest 8 = .ok (.getfield 122, 3) := by decide +kernel
theorem dX12_fewest_11 : decode cX12_fewest 11 = .ok (.aload_n 0, 1) := by decide +kernel
theorem dX12_fewest_12 : decode cX12_fewest 12 = .ok (.getfield 48, 3) := by decide +kernel
theorem dX12_fewest_15 : decode cX12_fewest 15 = .ok (.iaload, 1) := by decide +kernel
theorem dX12_fewest_16 : decode cX12_fewest 16 = .ok (.iconst 1, 1) := by decide +kernel
theorem dX12_fewest_17 : decode cX12_fewest 17 = .ok (.isub, 1) := by decide +kernel
theorem dX12_fewest_18 : decode cX12_fewest 18 = .ok (.invokestatic 352, 3) := by decide +kernel
theorem dX12_fewest_21 : decode cX12_fewest 21 = .ok (.ifCond .ne 5, 3) := by decide +kernel
theorem dX12_fewest_24 : decode cX12_fewest 24 = .ok (.iconst (-1), 1) := by decide +kernel
theorem dX12_fewest_25 : decode cX12_fewest 25 = .ok (.ireturn, 1) := by decide +kernel
theorem dX12_fewest_26 : decode cX12_fewest 26 = .ok (.iconst 0, 1) := by decide +kernel
theorem dX12_fewest_27 : decode cX12_fewest 27 = .ok (.istore_n 2, 1) := by decide +kernel
theorem dX12_fewest_28 : decode cX12_fewest 28 = .ok (.aload_n 0, 1) := by decide +kernel
theorem dX12_fewest_29 : decode cX12_fewest 29 = .ok (.iload_n 2, 1) := by decide +kernel
theorem dX12_fewest_30 : decode cX12_fewest 30 = .ok (.invokevirtual 612, 3) := by decide +kernel
theorem dX12_fewest_33 : decode cX12_fewest 33 = .ok (.ifCond .ne 9, 3) := by decide +kernel
theorem dX12_fewest_36 : decode cX12_fewest 36 = .ok (.iinc 2 1, 3) := by decide +kernel
theorem dX12_fewest_39 : decode cX12_fewest 39 = .ok (.goto (-11), 3) := by decide +kernel
theorem dX12_fewest_42 : decode cX12_fewest 42 = .ok (.iload_n 1, 1) := by decide +kernel
theorem dX12_fewest_43 : decode cX12_fewest 43 = .ok (.iconst (-1), 1) := by decide +kernel
theorem dX12_fewest_44 : decode cX12_fewest 44 = .ok (.if_icmp .ne 7, 3) := by decide +kernel
theorem dX12_fewest_47 : decode cX12_fewest 47 = .ok (.iload_n 2, 1) := by decide +kernel
theorem dX12_fewest_48 : decode cX12_fewest 48 = .ok (.goto 9, 3) := by decide +kernel
theorem dX12_fewest_51 : decode cX12_fewest 51 = .ok (.aload_n 0, 1) := by decide +kernel
theorem dX12_fewest_52 : decode cX12_fewest 52 = .ok (.getfield 238, 3) := by decide +kernel
theorem dX12_fewest_55 : decode cX12_fewest 55 = .ok (.iload_n 1, 1) := by decide +kernel
theorem dX12_fewest_56 : decode cX12_fewest 56 = .ok (.iaload, 1) := by decide +kernel
theorem dX12_fewest_57 : decode cX12_fewest 57 = .ok (.ireturn, 1) := by decide +kernel
abbrev tr_d_X12_may_2 (K1 : Int → Prop) (z1 : Int) (z : Int) : Prop := (K1 (z1 + 1))
def d_X12_may_2 (K1 : Int → Prop) (z1 : Int) (z : Int) : Prop := tr_d_X12_may_2 K1 z1 z
theorem u_d_X12_may_2 {K1 : Int → Prop} {z1 : Int} {z : Int} (h : tr_d_X12_may_2 K1 z1 z) : d_X12_may_2 K1 z1 z := h
abbrev tr_d_X12_may_1 (x1 : Int) (A : St) (z : Int) (K1 : Int → Prop) (z1 : Int) : Prop := ((0 ≤ z1 ∧ z1 ≤ 2147483647) ∧ (((x1 ≤ z1) ∧ (z = 1)) ∨ ((¬ x1 ≤ z1) ∧ (∃ z9 : Int, z9 = A 51 (z1).toNat ∧ (∃ z10 : Int, z10 = A 51 (x1).toNat ∧ (((¬ z9 = z10) ∧ (d_X12_may_2 K1 z1 z)) ∨ ((z9 = z10) ∧ (∃ z13 : Int, q_X12_crosses z1 x1 A z13 ∧ (((z13 = 0) ∧ (d_X12_may_2 K1 z1 z)) ∨ ((¬ z13 = 0) ∧ (z = 0)))))))))))
def d_X12_may_1 (x1 : Int) (A : St) (z : Int) : Nat → Int → Prop
  | 0, _ => False
  | nn9 + 1, z1 => tr_d_X12_may_1 x1 A z (fun z1 => d_X12_may_1 x1 A z nn9 z1) z1
theorem u_d_X12_may_1 {x1 : Int} {A : St} {z : Int} {nn9 : Nat} {z1 : Int} (h : tr_d_X12_may_1 x1 A z (fun z1 => d_X12_may_1 x1 A z nn9 z1) z1) : d_X12_may_1 x1 A z (nn9 + 1) z1 := h
abbrev tr_r_X12_may (x1 : Int) (A : St) (z : Int) : Prop := (∃ nn9 : Nat, d_X12_may_1 x1 A z nn9 0)
def r_X12_may (x1 : Int) (A : St) (z : Int) : Prop := tr_r_X12_may x1 A z
theorem u_r_X12_may {x1 : Int} {A : St} {z : Int} (h : tr_r_X12_may x1 A z) : r_X12_may x1 A z := h
def q_X12_may (x1 : Int) (A : St) (z : Int) : Prop := r_X12_may x1 A z ∧ ((0 ≤ z ∧ z ≤ 1) ∧ (Hd (z = 0 → ∃ o : Nat, (o : Int) < x1 ∧ A 51 o = A 51 x1.toNat)))
def ws_mb_X12_may : List Cond := .code yX12_may cX12_may 3 (some .boolean) :: WX
set_option maxHeartbeats 4000000 in
set_option maxRecDepth 100000 in
theorem mb_X12_may (l : Launch) (dC : Nat → ClassId) (dI : Nat → Nat → Nat) (cB cI cJ cZ cQ : ClassId) (q : Nat → Nat) (A : St) (x1 : Int) (hI : IM A) (hx1 : (0 : Int) ≤ x1 ∧ x1 ≤ 7) : XMi l yX12_may ws_mb_X12_may ({ frames := 1, cells := 0, slots := 0, locals := 27 } : Room) (dC, dI) (tyA cB cI cJ cZ cQ) (WM cI cJ cZ q) A [.ref (q 0), .int (iI x1)] (fun z u => A = u ∧ r_X12_may x1 A z ∧ ((0 ≤ z ∧ z ≤ 1) ∧ (Hd (z = 0 → ∃ o : Nat, (o : Int) < x1 ∧ A 51 o = A 51 x1.toNat)))) := by
  refine x_metz (cc := cX12_may) (maxL := 3) WM_adr (by decide +kernel) rfl (Nat.le_of_ble_eq_true rfl) (fun z u h => h.2.2.1) (fun p e s m below meth c Q AS ls hx hb hml hown hts hK hDD hA0 hP hS hl RET => ?_)
  have hown : s.vm.findClass RX12 = some m.cls := hown
  have hl : lv_has ls 3 [(0, .ref (q 0)), (1, .int (iI x1))] := hl
  have hiX12 : ∀ w ∈ u_ws RX12 TX12 85, w ∈ ws_mb_X12_may := fun w h => List.mem_cons_of_mem _ (wx_lay w h)
  obtain ⟨H, hHe⟩ : ∃ H : Heap, H = s.heap := ⟨_, rfl⟩
  rw [← hHe] at hP
  have hS : va_S AS s.heap H [] := by rw [hHe]; exact hS
  suffices hgo : ∀ locs : List Loc, va_S AS s.heap H locs → W p l e (headSpec ws_mb_X12_may ({ frames := 1, cells := 0, slots := 0, locals := 27 } : Room)).room s m [.ref (q 0), .int (iI x1)].toArray below meth c H locs 0 0 Q (F0 m 0 ls []) by
    have := hgo [] hS
    rw [hHe] at this
    exact this
  clear hS hHe
  intro locs hS
  refine lv_iconst (v := iI 0) hx hb dX12_may_0 (by decide +kernel) ?_
  refine lv_istore_n (lv' := [(2, .int (iI 0)), (0, .ref (q 0)), (1, .int (iI x1))]) hx hb dX12_may_1 rfl hl (by decide) rfl (fun ls hl => ?_)
  have L2_3 : ∀ (n5 : Nat) (z1 : Int) (H : Heap) (locs : List Loc) (ls : Array Slot), (0 ≤ z1) → (0 ≤ z1 ∧ z1 ≤ 2147483647) → (∀ (z : Int), (∃ mm1 : Nat, (d_X12_may_1 x1 A z mm1 z1)) → r_X12_may x1 A z) → ((x1 - z1 + 1).toNat = n5) → va_P (dC, dI) vwCl (WM cI cJ cZ q A) H → va_S AS s.heap H locs → lv_has ls 3 [(2, .int (iI z1)), (0, .ref (q 0)), (1, .int (iI x1))] → W p l e (headSpec ws_mb_X12_may ({ frames := 1, cells := 0, slots := 0, locals := 27 } : Room)).room s m [.ref (q 0), .int (iI x1)].toArray below meth c H locs 0 0 Q (F0 m 2 ls []) := by
    intro n5
    induction n5 using Nat.strongRecOn with
    | ind n5 ih4 =>
      intro z1 H locs ls f6 f7 hk1 hn5 hP hS hl
      refine lv_iload_n hx hb dX12_may_2 rfl (lv_at hl 0 rfl) ?_
      refine lv_iload_n hx hb dX12_may_3 rfl (lv_at hl 2 rfl) ?_
      refine lv_icmp_ge (tgt := 39) hx hb dX12_may_4 (by decide) (fun c8 => ?_) (fun c8 => ?_)
      · have c8 : x1 ≤ z1 := (i_le (rb hx1 (by decide) (by decide)) (rb f7 (by decide) (by decide))).mp c8
        refine lv_iconst (v := iI 1) hx hb dX12_may_39 (by decide +kernel) ?_
        exact RET 1 _ _ _ _ _ ⟨rfl, hk1 _ ⟨0 + 1, (u_d_X12_may_1 ⟨f7, (Or.inl ⟨c8, rfl⟩)⟩)⟩, ⟨by decide, Hd.mk (fun h => absurd h (by decide))⟩⟩ hP hS dX12_may_40
      · have c8 : ¬ x1 ≤ z1 := mt (i_le (rb hx1 (by decide) (by decide)) (rb f7 (by decide) (by decide))).mpr c8
        refine lv_aload_n hx hb dX12_may_7 rfl (lv_at hl 1 rfl) ?_
        refine va_get (D := (dC, dI)) (ci := 12) (v := .ref (q 51)) (C := RX12) (T := TX12) (N := 85) hx hb hts hiX12 hown hK hP 0 wm0 rfl 74 (by decide) (hts _ (List.mem_cons_of_mem _ (wl_in_7 _ (List.mem_of_getElem? (i := 53) rfl)))) (fun _ h9 => h9) rfl dX12_may_8 ?_
        refine lv_iload_n hx hb dX12_may_11 rfl (lv_at hl 0 rfl) ?_
        refine x_iald hx hb hK hP 51 1 wm51 rfl (by omega) (by decide) dX12_may_12 (fun z9 hz9 => ?_)
        have rz9 : (-1 : Int) ≤ z9 ∧ z9 ≤ 8 := by rw [hz9]; exact hI 51 _
        have gz9 := Hd.mk hz9
        have hz9 : z9 = A 51 (z1).toNat := hz9
        refine lv_aload_n hx hb dX12_may_13 rfl (lv_at hl 1 rfl) ?_
        refine va_get (D := (dC, dI)) (ci := 12) (v := .ref (q 51)) (C := RX12) (T := TX12) (N := 85) hx hb hts hiX12 hown hK hP 0 wm0 rfl 74 (by decide) (hts _ (List.mem_cons_of_mem _ (wl_in_7 _ (List.mem_of_getElem? (i := 53) rfl)))) (fun _ h9 => h9) rfl dX12_may_14 ?_
        refine lv_iload_n hx hb dX12_may_17 rfl (lv_at hl 2 rfl) ?_
        refine x_iald hx hb hK hP 51 1 wm51 rfl (by omega) (by decide) dX12_may_18 (fun z10 hz10 => ?_)
        have rz10 : (-1 : Int) ≤ z10 ∧ z10 ≤ 8 := by rw [hz10]; exact hI 51 _
        have gz10 := Hd.mk hz10
        have hz10 : z10 = A 51 (x1).toNat := hz10
        have J33_12 : ∀ (H : Heap) (locs : List Loc) (ls : Array Slot), (∀ (z : Int), (∃ mm1 : Nat, (d_X12_may_2 (fun z1' => d_X12_may_1 x1 A z mm1 z1') z1 z)) → r_X12_may x1 A z) → va_P (dC, dI) vwCl (WM cI cJ cZ q A) H → va_S AS s.heap H locs → lv_has ls 3 [(2, .int (iI z1)), (0, .ref (q 0)), (1, .int (iI x1))] → W p l e (headSpec ws_mb_X12_may ({ frames := 1, cells := 0, slots := 0, locals := 27 } : Room)).room s m [.ref (q 0), .int (iI x1)].toArray below meth c H locs 0 0 Q (F0 m 33 ls []) := by
          intro H locs ls hk2 hP hS hl
          refine lv_iinc (v := iI (z1 + 1)) (lv' := [(2, .int (iI (z1 + 1))), (0, .ref (q 0)), (1, .int (iI x1))]) hx hb dX12_may_33 hl (k := 0) rfl (i_inc (by omega)) (by decide) rfl (fun ls hl => ?_)
          refine lv_goto (tgt := 2) hx hb dX12_may_36 (by decide) ?_
          exact ih4 _ (by omega) (z1 + 1) _ _ _ (by omega) (by omega) (fun zq ⟨mm1, hq⟩ => hk2 _ ⟨mm1, (u_d_X12_may_2 hq)⟩) rfl hP hS (lv_sub hl [0, 1, 2] rfl)
        refine lv_icmp_ne (tgt := 33) hx hb dX12_may_19 (by decide) (fun c11 => ?_) (fun c11 => ?_)
        · have c11 : ¬ z9 = z10 := mt (i_eq (rb rz9 (by decide) (by decide)) (rb rz10 (by decide) (by decide))).mpr c11
          exact J33_12 _ _ _ (fun zq ⟨mm1, hq⟩ => hk1 _ ⟨mm1 + 1, (u_d_X12_may_1 ⟨f7, (Or.inr ⟨c8, ⟨z9, gz9.out, ⟨z10, gz10.out, (Or.inl ⟨c11, hq⟩)⟩⟩⟩)⟩)⟩) hP hS (lv_sub hl [0, 1, 2] rfl)
        · have c11 : z9 = z10 := (i_eq (rb rz9 (by decide) (by decide)) (rb rz10 (by decide) (by decide))).mp c11
          refine lv_aload_n hx hb dX12_may_22 rfl (lv_at hl 1 rfl) ?_
          refine lv_iload_n hx hb dX12_may_23 rfl (lv_at hl 0 rfl) ?_
          refine lv_iload_n hx hb dX12_may_24 rfl (lv_at hl 2 rfl) ?_
          refine x_calli (As := [.int (iI z1), .int (iI x1)]) (rest := []) ⟨hx, hb, hml, hown, hts⟩ (mc_X12_crosses l dC dI cB cI cJ cZ cQ q _ z1 x1 hI (by omega) hx1) (cwV 2 hts (goodV (wl_in_7 _ (List.mem_of_getElem? (i := 49) rfl)) (wl_in_7 _ (List.mem_of_getElem? (i := 50) rfl)) (wl_in_7 _ (List.mem_of_getElem? (i := 51) rfl)) (wl_in_0 _ (List.mem_of_getElem? (i := 8) rfl)) (wl_in_7 _ (List.mem_of_getElem? (i := 47) rfl))) rfl rfl rfl (by decide +kernel) ⟨Nat.le_of_ble_eq_true rfl, Nat.le_of_ble_eq_true rfl⟩) hK hDD hA0 hP hS 0 12 wm0 rfl rfl hl.1 (Nat.le_of_ble_eq_true rfl) dX12_may_25 (fun z13 A14 H locs hw15 hP hS => ?_)
          obtain ⟨rfl, hw15⟩ := hw15
          have ghw15 : q_X12_crosses z1 x1 A z13 := hw15
          have hw15 := hw15.2
          refine lv_if_eq (tgt := 33) hx hb dX12_may_28 (by decide) (fun c16 => ?_) (fun c16 => ?_)
          · have c16 : z13 = 0 := (i_eq0 (rb hw15 (by decide) (by decide))).mp c16
            exact J33_12 _ _ _ (fun zq ⟨mm1, hq⟩ => hk1 _ ⟨mm1 + 1, (u_d_X12_may_1 ⟨f7, (Or.inr ⟨c8, ⟨z9, gz9.out, ⟨z10, gz10.out, (Or.inr ⟨c11, ⟨z13, ghw15, (Or.inl ⟨c16, hq⟩)⟩⟩)⟩⟩⟩)⟩)⟩) hP hS (lv_sub hl [0, 1, 2] rfl)
          · have c16 : ¬ z13 = 0 := mt (i_eq0 (rb hw15 (by decide) (by decide))).mpr c16
            refine lv_iconst (v := iI 0) hx hb dX12_may_31 (by decide +kernel) ?_
            exact RET 0 _ _ _ _ _ ⟨rfl, hk1 _ ⟨0 + 1, (u_d_X12_may_1 ⟨f7, (Or.inr ⟨c8, ⟨z9, gz9.out, ⟨z10, gz10.out, (Or.inr ⟨c11, ⟨z13, ghw15, (Or.inr ⟨c16, rfl⟩)⟩⟩)⟩⟩⟩)⟩)⟩, ⟨by decide, Hd.mk (fun _ => ⟨(z1).toNat, by omega, by rw [← hz9, ← hz10]; omega⟩)⟩⟩ hP hS dX12_may_32
  exact L2_3 _ 0 _ _ _ (by omega) (by omega) (fun zq ⟨mm1, hq⟩ => (u_r_X12_may ⟨mm1, hq⟩)) rfl hP hS (lv_sub hl [0, 1, 2] rfl)

abbrev tr_d_X12_fits8_3 (K1 : Int → St → Prop) (x1 : Int) (z2 : Int) (A20 : St) (z : Int) (u : St) : Prop := (∃ z38 : Int, z38 = A20 51 (z2).toNat ∧ (((x1 ≤ z38) ∧ (K1 (z2 - 1) A20)) ∨ ((¬ x1 ≤ z38) ∧ (∃ A40 : St, A40 = (stA A20 51 (z2 + 1).toNat (-1)) ∧ (K1 (z2 + 1) A40)))))
def d_X12_fits8_3 (K1 : Int → St → Prop) (x1 : Int) (z2 : Int) (A20 : St) (z : Int) (u : St) : Prop := tr_d_X12_fits8_3 K1 x1 z2 A20 z u
theorem u_d_X12_fits8_3 {K1 : Int → St → Prop} {x1 : Int} {z2 : Int} {A20 : St} {z : Int} {u : St} (h : tr_d_X12_fits8_3 K1 x1 z2 A20 z u) : d_X12_fits8_3 K1 x1 z2 A20 z u := h
abbrev tr_d_X12_fits8_2 (K1 : Int → St → Prop) (x1 : Int) (z2 : Int) (z : Int) (u : St) (K2 : St → Prop) (A20 : St) : Prop := ((IM A20) ∧ (∃ z28 : Int, z28 = A20 51 (z2).toNat ∧ (((x1 ≤ z28) ∧ (d_X12_fits8_3 K1 x1 z2 A20 z u)) ∨ ((¬ x1 ≤ z28) ∧ (∃ z31 : Int, q_X12_may z2 A20 z31 ∧ (((¬ z31 = 0) ∧ (d_X12_fits8_3 K1 x1 z2 A20 z u)) ∨ ((z31 = 0) ∧ (∃ z35 : Int, z35 = A20 51 (z2).toNat ∧ (∃ A36 : St, A36 = (stA A20 51 (z2).toNat (z35 + 1)) ∧ (K2 A36))))))))))
def d_X12_fits8_2 (K1 : Int → St → Prop) (x1 : Int) (z2 : Int) (z : Int) (u : St) : Nat → St → Prop
  | 0, _ => False
  | nn9 + 1, A20 => tr_d_X12_fits8_2 K1 x1 z2 z u (fun A20 => d_X12_fits8_2 K1 x1 z2 z u nn9 A20) A20
theorem u_d_X12_fits8_2 {K1 : Int → St → Prop} {x1 : Int} {z2 : Int} {z : Int} {u : St} {nn9 : Nat} {A20 : St} (h : tr_d_X12_fits8_2 K1 x1 z2 z u (fun A20 => d_X12_fits8_2 K1 x1 z2 z u nn9 A20) A20) : d_X12_fits8_2 K1 x1 z2 z u (nn9 + 1) A20 := h
abbrev tr_d_X12_fits8_1 (x1 : Int) (A : St) (z : Int) (u : St) (K1 : Int → St → Prop) (z2 : Int) (A4 : St) : Prop := ((IM A4) ∧ ((-1 ≤ z2 ∧ z2 ≤ 6) ∧ (((z2 < 0) ∧ (z = 0 ∧ u = A4)) ∨ ((¬ z2 < 0) ∧ (∃ z14 : Int, z14 = A4 25 ((A 0 12)).toNat ∧ (((z14 ≤ z2) ∧ (z = 1 ∧ u = A4)) ∨ ((¬ z14 ≤ z2) ∧ (∃ z17 : Int, z17 = A4 51 (z2).toNat ∧ (∃ A18 : St, A18 = (stA A4 51 (z2).toNat (z17 + 1)) ∧ (∃ nn9 : Nat, d_X12_fits8_2 K1 x1 z2 z u nn9 A18))))))))))
def d_X12_fits8_1 (x1 : Int) (A : St) (z : Int) (u : St) : Nat → Int → St → Prop
  | 0, _, _ => False
  | nn9 + 1, z2, A4 => tr_d_X12_fits8_1 x1 A z u (fun z2 A4 => d_X12_fits8_1 x1 A z u nn9 z2 A4) z2 A4
theorem u_d_X12_fits8_1 {x1 : Int} {A : St} {z : Int} {u : St} {nn9 : Nat} {z2 : Int} {A4 : St} (h : tr_d_X12_fits8_1 x1 A z u (fun z2 A4 => d_X12_fits8_1 x1 A z u nn9 z2 A4) z2 A4) : d_X12_fits8_1 x1 A z u (nn9 + 1) z2 A4 := h
abbrev tr_r_X12_fits8 (x1 : Int) (A : St) (z : Int) (u : St) : Prop := (∃ A1 : St, A1 = (stA A 51 (0 : Int).toNat (-1)) ∧ (∃ nn9 : Nat, d_X12_fits8_1 x1 A z u nn9 0 A1))
def r_X12_fits8 (x1 : Int) (A : St) (z : Int) (u : St) : Prop := tr_r_X12_fits8 x1 A z u
theorem u_r_X12_fits8 {x1 : Int} {A : St} {z : Int} {u : St} (h : tr_r_X12_fits8 x1 A z u) : r_X12_fits8 x1 A z u := h
def q_X12_fits8 (x1 : Int) (A : St) (z : Int) (u : St) : Prop := r_X12_fits8 x1 A z u ∧ IM u ∧ fr [51] [] A u ∧ ((0 ≤ z ∧ z ≤ 1) ∧ (Hd (A 25 (A 0 12).toNat ≤ x1 → z = 1)))
def ws_mb_X12_fits8 : List Cond := .code yX12_fits8 cX12_fits8 3 (some .boolean) :: WX
set_option maxHeartbeats 4000000 in
set_option maxRecDepth 100000 in
theorem mb_X12_fits8 (l : Launch) (dC : Nat → ClassId) (dI : Nat → Nat → Nat) (cB cI cJ cZ cQ : ClassId) (q : Nat → Nat) (A : St) (x1 : Int) (hI : IM A) (hx1 : (0 : Int) ≤ x1 ∧ x1 ≤ 6) : XMi l yX12_fits8 ws_mb_X12_fits8 ({ frames := 2, cells := 0, slots := 0, locals := 49 } : Room) (dC, dI) (tyA cB cI cJ cZ cQ) (WM cI cJ cZ q) A [.ref (q 0), .int (iI x1)] (fun z u => r_X12_fits8 x1 A z u ∧ IM u ∧ fr [51] [] A u ∧ ((0 ≤ z ∧ z ≤ 1) ∧ (Hd (A 25 (A 0 12).toNat ≤ x1 → z = 1)))) := by
  refine x_metz (cc := cX12_fits8) (maxL := 3) WM_adr (by decide +kernel) rfl (Nat.le_of_ble_eq_true rfl) (fun z u h => h.2.2.2.1) (fun p e s m below meth c Q AS ls hx hb hml hown hts hK hDD hA0 hP hS hl RET => ?_)
  have hown : s.vm.findClass RX12 = some m.cls := hown
  have hl : lv_has ls 3 [(0, .ref (q 0)), (1, .int (iI x1))] := hl
  have hiX12 : ∀ w ∈ u_ws RX12 TX12 85, w ∈ ws_mb_X12_fits8 := fun w h => List.mem_cons_of_mem _ (wx_lay w h)
  obtain ⟨H, hHe⟩ : ∃ H : Heap, H = s.heap := ⟨_, rfl⟩
  rw [← hHe] at hP
  have hS : va_S AS s.heap H [] := by rw [hHe]; exact hS
  suffices hgo : ∀ locs : List Loc, va_S AS s.heap H locs → W p l e (headSpec ws_mb_X12_fits8 ({ frames := 2, cells := 0, slots := 0, locals := 49 } : Room)).room s m [.ref (q 0), .int (iI x1)].toArray below meth c H locs 0 0 Q (F0 m 0 ls []) by
    have := hgo [] hS
    rw [hHe] at this
    exact this
  clear hS hHe
  intro locs hS
  refine lv_iconst (v := iI 0) hx hb dX12_fits8_0 (by decide +kernel) ?_
  refine lv_istore_n (lv' := [(2, .int (iI 0)), (0, .ref (q 0)), (1, .int (iI x1))]) hx hb dX12_fits8_1 rfl hl (by decide) rfl (fun ls hl => ?_)
  refine lv_aload_n hx hb dX12_fits8_2 rfl (lv_at hl 1 rfl) ?_
  refine va_get (D := (dC, dI)) (ci := 12) (v := .ref (q 51)) (C := RX12) (T := TX12) (N := 85) hx hb hts hiX12 hown hK hP 0 wm0 rfl 74 (by decide) (hts _ (List.mem_cons_of_mem _ (wl_in_7 _ (List.mem_of_getElem? (i := 53) rfl)))) (fun _ h9 => h9) rfl dX12_fits8_3 ?_
  refine lv_iconst (v := iI 0) hx hb dX12_fits8_6 (by decide +kernel) ?_
  refine lv_iconst (v := iI (-1)) hx hb dX12_fits8_7 (by decide +kernel) ?_
  refine x_iast hx hb hK hP hDD hS 51 1 wm51 rfl (by omega) (by decide) dX12_fits8_8 ws51 (fun H locs hP hS => ?_)
  have hI := hI.st (j := 51) (i := (0 : Int).toNat) (v := (-1)) (show (-1 : Int) ≤ (-1) ∧ (-1) ≤ 8 from (by omega))
  obtain ⟨A1, hA1⟩ : ∃ A1 : St, A1 = (stA A 51 (0 : Int).toNat (-1)) := ⟨_, rfl⟩
  rw [← hA1] at hP hI
  have L9_5 : ∀ (n7 : Nat) (z2 : Int) (A4 : St) (H : Heap) (locs : List Loc) (ls : Array Slot), (-1 ≤ z2 ∧ z2 ≤ 6) → (Hd (∀ i : Nat, (i : Int) ≤ z2 → A4 51 i < x1)) → (Hd (A 25 (A 0 12).toNat ≤ x1 → 0 ≤ z2 ∧ A4 51 z2.toNat = -1)) → (∀ (z : Int) (u : St), (∃ mm1 : Nat, (d_X12_fits8_1 x1 A z u mm1 z2 A4)) → r_X12_fits8 x1 A z u) → (fmz (A4 51) z2 = n7) → IM A4 → fr [51] [] A1 A4 → va_P (dC, dI) vwCl (WM cI cJ cZ q A4) H → va_S AS s.heap H locs → lv_has ls 3 [(2, .int (iI z2)), (0, .ref (q 0)), (1, .int (iI x1))] → W p l e (headSpec ws_mb_X12_fits8 ({ frames := 2, cells := 0, slots := 0, locals := 49 } : Room)).room s m [.ref (q 0), .int (iI x1)].toArray below meth c H locs 0 0 Q (F0 m 9 ls []) := by
    intro n7
    induction n7 using Nat.strongRecOn with
    | ind n7 ih6 =>
      intro z2 A4 H locs ls f8 f9 f10 hk1 hn7 hI hj3 hP hS hl
      have gI11 : Hd (IM A4) := Hd.mk hI
      have hIb := hI
      refine lv_iload_n hx hb dX12_fits8_9 rfl (lv_at hl 0 rfl) ?_
      refine lv_if_lt (tgt := 96) hx hb dX12_fits8_10 (by decide) (fun c12 => ?_) (fun c12 => ?_)
      · have c12 : z2 < 0 := (i_lt0 (rb f8 (by decide) (by decide))).mp c12
        refine lv_iload_n hx hb dX12_fits8_96 rfl (lv_at hl 0 rfl) ?_
        refine lv_if_lt (tgt := 104) hx hb dX12_fits8_97 (by decide) (fun _ => ?_) (fun c13 => False.elim (by have c13 : ¬ z2 < 0 := mt (i_lt0 (rb f8 (by decide) (by decide))).mpr c13; omega))
        refine lv_iconst (v := iI 0) hx hb dX12_fits8_104 (by decide +kernel) ?_
        exact RET 0 _ _ _ _ _ ⟨hk1 _ _ ⟨0 + 1, (u_d_X12_fits8_1 ⟨gI11.out, ⟨f8, (Or.inl ⟨c12, ⟨rfl, rfl⟩⟩)⟩⟩)⟩, hI, fr.trans (fr_def hA1 (fr.st (fr.rf) (by decide) rfl)) hj3 rfl rfl, ⟨by decide, Hd.mk (fun h => absurd (f10.out h).1 (by omega))⟩⟩ hP hS dX12_fits8_105
      · have c12 : ¬ z2 < 0 := mt (i_lt0 (rb f8 (by decide) (by decide))).mpr c12
        refine lv_iload_n hx hb dX12_fits8_13 rfl (lv_at hl 0 rfl) ?_
        refine lv_aload_n hx hb dX12_fits8_14 rfl (lv_at hl 1 rfl) ?_
        refine va_get (D := (dC, dI)) (ci := 12) (v := .ref (q 25)) (C := RX12) (T := TX12) (N := 85) hx hb hts hiX12 hown hK hP 0 wm0 rfl 36 (by decide) (hts _ (List.mem_cons_of_mem _ (wl_in_3 _ (List.mem_of_getElem? (i := 20) rfl)))) (fun _ h9 => h9) rfl dX12_fits8_15 ?_
        refine lv_aload_n hx hb dX12_fits8_18 rfl (lv_at hl 1 rfl) ?_
        have e_A1_12 : A1 0 12 = (A 0 12) := by rw [hA1]; exact rfl
        have e_A4_12 : A4 0 12 = (A 0 12) := (hj3.2 12 rfl).trans e_A1_12
        refine va_get (D := (dC, dI)) (ci := 12) (v := .int (iI (A4 0 12))) (C := RX12) (T := TX12) (N := 85) hx hb hts hiX12 hown hK hP 0 wm0 rfl 12 (by decide) (hts _ (List.mem_cons_of_mem _ (wl_in_4 _ (List.mem_of_getElem? (i := 14) rfl)))) (fun _ h9 => h9) rfl dX12_fits8_19 ?_
        refine tp_i (y := iI (A 0 12)) (congrArg iI e_A4_12) ?_
        have r_A_0_12 : (0 : Int) ≤ (A 0 12) ∧ (A 0 12) ≤ 1 := by rw [← e_A4_12]; exact hI 0 12
        have a_A1_25 : A1 25 = A 25 := by rw [hA1]; exact rfl
        have a_A4_25 : A4 25 = A 25 := (hj3.1 25 (by decide) rfl).trans a_A1_25
        refine x_iald hx hb hK hP 25 1 wm25 rfl (by omega) (by decide) dX12_fits8_22 (fun z14 hz14 => ?_)
        have rz14 : (0 : Int) ≤ z14 ∧ z14 ≤ 6 := by rw [hz14]; exact hI 25 _
        have gz14 := Hd.mk hz14
        have hz14 : z14 = A 25 ((A 0 12)).toNat := hz14.trans (congrFun a_A4_25 _)
        refine lv_icmp_ge (tgt := 96) hx hb dX12_fits8_23 (by decide) (fun c15 => ?_) (fun c15 => ?_)
        · have c15 : z14 ≤ z2 := (i_le (rb rz14 (by decide) (by decide)) (rb f8 (by decide) (by decide))).mp c15
          refine lv_iload_n hx hb dX12_fits8_96 rfl (lv_at hl 0 rfl) ?_
          refine lv_if_lt (tgt := 104) hx hb dX12_fits8_97 (by decide) (fun c16 => False.elim (by have c16 : z2 < 0 := (i_lt0 (rb f8 (by decide) (by decide))).mp c16; omega)) (fun _ => ?_)
          refine lv_iconst (v := iI 1) hx hb dX12_fits8_100 (by decide +kernel) ?_
          refine lv_goto (tgt := 105) hx hb dX12_fits8_101 (by decide) ?_
          exact RET 1 _ _ _ _ _ ⟨hk1 _ _ ⟨0 + 1, (u_d_X12_fits8_1 ⟨gI11.out, ⟨f8, (Or.inr ⟨c12, ⟨z14, gz14.out, (Or.inl ⟨c15, ⟨rfl, rfl⟩⟩)⟩⟩)⟩⟩)⟩, hI, fr.trans (fr_def hA1 (fr.st (fr.rf) (by decide) rfl)) hj3 rfl rfl, ⟨by decide, Hd.mk (fun _ => rfl)⟩⟩ hP hS dX12_fits8_105
        · have c15 : ¬ z14 ≤ z2 := mt (i_le (rb rz14 (by decide) (by decide)) (rb f8 (by decide) (by decide))).mpr c15
          refine lv_aload_n hx hb dX12_fits8_26 rfl (lv_at hl 1 rfl) ?_
          refine va_get (D := (dC, dI)) (ci := 12) (v := .ref (q 51)) (C := RX12) (T := TX12) (N := 85) hx hb hts hiX12 hown hK hP 0 wm0 rfl 74 (by decide) (hts _ (List.mem_cons_of_mem _ (wl_in_7 _ (List.mem_of_getElem? (i := 53) rfl)))) (fun _ h9 => h9) rfl dX12_fits8_27 ?_
          refine lv_iload_n hx hb dX12_fits8_30 rfl (lv_at hl 0 rfl) ?_
          refine lv_dup2_11 hx hb dX12_fits8_31 rfl rfl ?_
          refine x_iald hx hb hK hP 51 1 wm51 rfl (by omega) (by decide) dX12_fits8_32 (fun z17 hz17 => ?_)
          have rz17 : (-1 : Int) ≤ z17 ∧ z17 ≤ 8 := by rw [hz17]; exact hI 51 _
          have gz17 := Hd.mk hz17
          have hz17 : z17 = A4 51 (z2).toNat := hz17
          have ga := f9.out (z2).toNat (by omega)
          rw [← hz17] at ga
          refine lv_iconst (v := iI 1) hx hb dX12_fits8_33 (by decide +kernel) ?_
          refine x_addv (v := z17 + 1) hx hb dX12_fits8_34 (by omega) ?_
          refine x_iast hx hb hK hP hDD hS 51 1 wm51 rfl (by omega) (by decide) dX12_fits8_35 ws51 (fun H locs hP hS => ?_)
          have hI := hI.st (j := 51) (i := (z2).toNat) (v := z17 + 1) (show (-1 : Int) ≤ z17 + 1 ∧ z17 + 1 ≤ 8 from (by omega))
          obtain ⟨A18, hA18⟩ : ∃ A18 : St, A18 = (stA A4 51 (z2).toNat (z17 + 1)) := ⟨_, rfl⟩
          rw [← hA18] at hP hI
          have L36_21 : ∀ (n23 : Nat) (A20 : St) (H : Heap) (locs : List Loc) (ls : Array Slot), (Hd (A20 51 = up (A18 51) z2.toNat (A20 51 z2.toNat))) → (A18 51 z2.toNat ≤ A20 51 z2.toNat ∧ A20 51 z2.toNat ≤ x1) → (Hd (A 25 (A 0 12).toNat ≤ x1 → used (A20 51) z2 (A20 51 z2.toNat))) → (∀ (z : Int) (u : St), (∃ mm1 mm2 : Nat, (d_X12_fits8_2 (fun z2' A4' => d_X12_fits8_1 x1 A z u mm1 z2' A4') x1 z2 z u mm2 A20)) → r_X12_fits8 x1 A z u) → ((x1 - A20 51 z2.toNat + 1).toNat = n23) → IM A20 → fr [51] [] A18 A20 → va_P (dC, dI) vwCl (WM cI cJ cZ q A20) H → va_S AS s.heap H locs → lv_has ls 3 [(2, .int (iI z2)), (0, .ref (q 0)), (1, .int (iI x1))] → W p l e (headSpec ws_mb_X12_fits8 ({ frames := 2, cells := 0, slots := 0, locals := 49 } : Room)).room s m [.ref (q 0), .int (iI x1)].toArray below meth c H locs 0 0 Q (F0 m 36 ls []) := by
            intro n23
            induction n23 using Nat.strongRecOn with
            | ind n23 ih22 =>
              intro A20 H locs ls f24 f25 f26 hk2 hn23 hI hj19 hP hS hl
              have gI27 : Hd (IM A20) := Hd.mk hI
              refine lv_aload_n hx hb dX12_fits8_36 rfl (lv_at hl 1 rfl) ?_
              refine va_get (D := (dC, dI)) (ci := 12) (v := .ref (q 51)) (C := RX12) (T := TX12) (N := 85) hx hb hts hiX12 hown hK hP 0 wm0 rfl 74 (by decide) (hts _ (List.mem_cons_of_mem _ (wl_in_7 _ (List.mem_of_getElem? (i := 53) rfl)))) (fun _ h9 => h9) rfl dX12_fits8_37 ?_
              refine lv_iload_n hx hb dX12_fits8_40 rfl (lv_at hl 0 rfl) ?_
              refine x_iald hx hb hK hP 51 1 wm51 rfl (by omega) (by decide) dX12_fits8_41 (fun z28 hz28 => ?_)
              have rz28 : (-1 : Int) ≤ z28 ∧ z28 ≤ 8 := by rw [hz28]; exact hI 51 _
              have gz28 := Hd.mk hz28
              have hz28 : z28 = A20 51 (z2).toNat := hz28
              refine lv_iload_n hx hb dX12_fits8_42 rfl (lv_at hl 2 rfl) ?_
              have J67_30 : ∀ (H : Heap) (locs : List Loc) (ls : Array Slot), (∀ (z : Int) (u : St), (∃ mm1 mm2 : Nat, (d_X12_fits8_3 (fun z2' A4' => d_X12_fits8_1 x1 A z u mm1 z2' A4') x1 z2 A20 z u)) → r_X12_fits8 x1 A z u) → va_P (dC, dI) vwCl (WM cI cJ cZ q A20) H → va_S AS s.heap H locs → lv_has ls 3 [(2, .int (iI z2)), (0, .ref (q 0)), (1, .int (iI x1))] → W p l e (headSpec ws_mb_X12_fits8 ({ frames := 2, cells := 0, slots := 0, locals := 49 } : Room)).room s m [.ref (q 0), .int (iI x1)].toArray below meth c H locs 0 0 Q (F0 m 67 ls []) := by
                intro H locs ls hk3 hP hS hl
                refine lv_aload_n hx hb dX12_fits8_67 rfl (lv_at hl 1 rfl) ?_
                refine va_get (D := (dC, dI)) (ci := 12) (v := .ref (q 51)) (C := RX12) (T := TX12) (N := 85) hx hb hts hiX12 hown hK hP 0 wm0 rfl 74 (by decide) (hts _ (List.mem_cons_of_mem _ (wl_in_7 _ (List.mem_of_getElem? (i := 53) rfl)))) (fun _ h9 => h9) rfl dX12_fits8_68 ?_
                refine lv_iload_n hx hb dX12_fits8_71 rfl (lv_at hl 0 rfl) ?_
                refine x_iald hx hb hK hP 51 1 wm51 rfl (by omega) (by decide) dX12_fits8_72 (fun z38 hz38 => ?_)
                have rz38 : (-1 : Int) ≤ z38 ∧ z38 ≤ 8 := by rw [hz38]; exact hI 51 _
                have gz38 := Hd.mk hz38
                have hz38 : z38 = A20 51 (z2).toNat := hz38
                have ez38 : z38 = z28 := hz38.trans hz28.symm
                refine lv_iload_n hx hb dX12_fits8_73 rfl (lv_at hl 2 rfl) ?_
                refine lv_icmp_ge (tgt := 90) hx hb dX12_fits8_74 (by decide) (fun c39 => ?_) (fun c39 => ?_)
                · have c39 : x1 ≤ z38 := (i_le (rb hx1 (by decide) (by decide)) (rb rz38 (by decide) (by decide))).mp c39
                  refine lv_iinc (v := iI (z2 - 1)) (lv' := [(2, .int (iI (z2 - 1))), (0, .ref (q 0)), (1, .int (iI x1))]) hx hb dX12_fits8_90 hl (k := 0) rfl (i_inc (by omega)) (by decide) rfl (fun ls hl => ?_)
                  refine lv_goto (tgt := 9) hx hb dX12_fits8_93 (by decide) ?_
                  have eP : A20 51 = up (A4 51) (z2).toNat (A20 51 (z2).toNat) := (f24.out).trans (by rw [hA18, stA_same, up_up])
                  have e0 : A18 51 (z2).toNat = z17 + 1 := by rw [hA18, stA_same, up_same]
                  have ezb : z17 = A4 51 (z2).toNat := hz17
                  have gm := fm_bwd (f := A4 51) (m := z2) (by omega) (fun i hi => ⟨(hIb 51 i).1, by have := f9.out i (by omega); omega⟩) eP
                  exact ih6 _ (by omega) (z2 - 1) _ _ _ _ (by omega) (by exact Hd.mk (kr_bwd f9.out eP (by omega))) (by exact Hd.mk (fun h => absurd h (by have gu := f26.out; intro h; have g2 := used_le (by omega) (by omega) (gu h); omega))) (fun zq uq ⟨mm1, hq⟩ => hk3 _ _ ⟨mm1, 0, (u_d_X12_fits8_3 ⟨z38, gz38.out, (Or.inl ⟨c39, hq⟩)⟩)⟩) rfl hI (fr.trans (fr_def hA18 (fr.st (fr.trans (fr.rf) hj3 rfl rfl) (by decide) rfl)) hj19 rfl rfl) hP hS (lv_sub hl [0, 1, 2] rfl)
                · have c39 : ¬ x1 ≤ z38 := mt (i_le (rb hx1 (by decide) (by decide)) (rb rz38 (by decide) (by decide))).mpr c39
                  refine lv_iinc (v := iI (z2 + 1)) (lv' := [(2, .int (iI (z2 + 1))), (0, .ref (q 0)), (1, .int (iI x1))]) hx hb dX12_fits8_77 hl (k := 0) rfl (i_inc (by omega)) (by decide) rfl (fun ls hl => ?_)
                  refine lv_aload_n hx hb dX12_fits8_80 rfl (lv_at hl 1 rfl) ?_
                  refine va_get (D := (dC, dI)) (ci := 12) (v := .ref (q 51)) (C := RX12) (T := TX12) (N := 85) hx hb hts hiX12 hown hK hP 0 wm0 rfl 74 (by decide) (hts _ (List.mem_cons_of_mem _ (wl_in_7 _ (List.mem_of_getElem? (i := 53) rfl)))) (fun _ h9 => h9) rfl dX12_fits8_81 ?_
                  refine lv_iload_n hx hb dX12_fits8_84 rfl (lv_at hl 0 rfl) ?_
                  refine lv_iconst (v := iI (-1)) hx hb dX12_fits8_85 (by decide +kernel) ?_
                  refine x_iast hx hb hK hP hDD hS 51 1 wm51 rfl (by omega) (by decide) dX12_fits8_86 ws51 (fun H locs hP hS => ?_)
                  have hI := hI.st (j := 51) (i := (z2 + 1).toNat) (v := (-1)) (show (-1 : Int) ≤ (-1) ∧ (-1) ≤ 8 from (by omega))
                  refine lv_goto (tgt := 9) hx hb dX12_fits8_87 (by decide) ?_
                  obtain ⟨A40, hA40⟩ : ∃ A40 : St, A40 = (stA A20 51 (z2 + 1).toNat (-1)) := ⟨_, rfl⟩
                  rw [← hA40] at hP hI
                  have eP : A20 51 = up (A4 51) (z2).toNat (A20 51 (z2).toNat) := (f24.out).trans (by rw [hA18, stA_same, up_up])
                  have e0 : A18 51 (z2).toNat = z17 + 1 := by rw [hA18, stA_same, up_same]
                  have ezb : z17 = A4 51 (z2).toNat := hz17
                  have eV : A40 51 = up (up (A4 51) (z2).toNat (A20 51 (z2).toNat)) (z2 + 1).toNat (-1) := by rw [hA40, stA_same, ← eP]
                  have gm := fm_fwd (f := A4 51) (m := z2) (by omega) (fun i hi => by have := f9.out i (by omega); omega) (by omega) eV
                  exact ih6 _ (by omega) (z2 + 1) _ _ _ _ (by omega) (by exact Hd.mk (kr_fwd (by omega) f9.out (w := A20 51 (z2).toNat) (by omega) (by omega) eV)) (by exact Hd.mk (fun _ => ⟨by omega, by rw [eV, up_same]⟩)) (fun zq uq ⟨mm1, hq⟩ => hk3 _ _ ⟨mm1, 0, (u_d_X12_fits8_3 ⟨z38, gz38.out, (Or.inr ⟨c39, ⟨A40, hA40, hq⟩⟩)⟩)⟩) rfl hI (fr_def hA40 (fr.st (fr.trans (fr_def hA18 (fr.st (fr.trans (fr.rf) hj3 rfl rfl) (by decide) rfl)) hj19 rfl rfl) (by decide) rfl)) hP hS (lv_sub hl [0, 1, 2] rfl)
              refine lv_icmp_ge (tgt := 67) hx hb dX12_fits8_43 (by decide) (fun c29 => ?_) (fun c29 => ?_)
              · have c29 : x1 ≤ z28 := (i_le (rb hx1 (by decide) (by decide)) (rb rz28 (by decide) (by decide))).mp c29
                exact J67_30 _ _ _ (fun zq uq ⟨mm1, mm2, hq⟩ => hk2 _ _ ⟨mm1, mm2 + 1, (u_d_X12_fits8_2 ⟨gI27.out, ⟨z28, gz28.out, (Or.inl ⟨c29, hq⟩)⟩⟩)⟩) hP hS (lv_sub hl [0, 1, 2] rfl)
              · have c29 : ¬ x1 ≤ z28 := mt (i_le (rb hx1 (by decide) (by decide)) (rb rz28 (by decide) (by decide))).mpr c29
                refine lv_aload_n hx hb dX12_fits8_46 rfl (lv_at hl 1 rfl) ?_
                refine lv_iload_n hx hb dX12_fits8_47 rfl (lv_at hl 0 rfl) ?_
                refine x_calli (As := [.int (iI z2)]) (rest := []) ⟨hx, hb, hml, hown, hts⟩ (mb_X12_may l dC dI cB cI cJ cZ cQ q _ z2 hI (by omega)) (cwV 1 hts (goodV (wl_in_7 _ (List.mem_of_getElem? (i := 55) rfl)) (wl_in_7 _ (List.mem_of_getElem? (i := 56) rfl)) (wl_in_7 _ (List.mem_of_getElem? (i := 57) rfl)) (wl_in_0 _ (List.mem_of_getElem? (i := 8) rfl)) (wl_in_7 _ (List.mem_of_getElem? (i := 52) rfl))) rfl rfl rfl (by decide +kernel) ⟨Nat.le_of_ble_eq_true rfl, Nat.le_of_ble_eq_true rfl⟩) hK hDD hA0 hP hS 0 12 wm0 rfl rfl hl.1 (Nat.le_of_ble_eq_true rfl) dX12_fits8_48 (fun z31 A32 H locs hw33 hP hS => ?_)
                obtain ⟨rfl, hw33⟩ := hw33
                have ghw33 : q_X12_may z2 A20 z31 := hw33
                have hw33 := hw33.2
                have rz31 : 0 ≤ z31 ∧ z31 ≤ 1 := hw33.1
                refine lv_if_ne (tgt := 67) hx hb dX12_fits8_51 (by decide) (fun c34 => ?_) (fun c34 => ?_)
                · have c34 : ¬ z31 = 0 := mt (i_eq0 (rb rz31 (by decide) (by decide))).mpr c34
                  exact J67_30 _ _ _ (fun zq uq ⟨mm1, mm2, hq⟩ => hk2 _ _ ⟨mm1, mm2 + 1, (u_d_X12_fits8_2 ⟨gI27.out, ⟨z28, gz28.out, (Or.inr ⟨c29, ⟨z31, ghw33, (Or.inl ⟨c34, hq⟩)⟩⟩)⟩⟩)⟩) hP hS (lv_sub hl [0, 1, 2] rfl)
                · have c34 : z31 = 0 := (i_eq0 (rb rz31 (by decide) (by decide))).mp c34
                  refine lv_aload_n hx hb dX12_fits8_54 rfl (lv_at hl 1 rfl) ?_
                  refine va_get (D := (dC, dI)) (ci := 12) (v := .ref (q 51)) (C := RX12) (T := TX12) (N := 85) hx hb hts hiX12 hown hK hP 0 wm0 rfl 74 (by decide) (hts _ (List.mem_cons_of_mem _ (wl_in_7 _ (List.mem_of_getElem? (i := 53) rfl)))) (fun _ h9 => h9) rfl dX12_fits8_55 ?_
                  refine lv_iload_n hx hb dX12_fits8_58 rfl (lv_at hl 0 rfl) ?_
                  refine lv_dup2_11 hx hb dX12_fits8_59 rfl rfl ?_
                  refine x_iald hx hb hK hP 51 1 wm51 rfl (by omega) (by decide) dX12_fits8_60 (fun z35 hz35 => ?_)
                  have rz35 : (-1 : Int) ≤ z35 ∧ z35 ≤ 8 := by rw [hz35]; exact hI 51 _
                  have gz35 := Hd.mk hz35
                  have hz35 : z35 = A20 51 (z2).toNat := hz35
                  have ez35 : z35 = z28 := hz35.trans hz28.symm
                  refine lv_iconst (v := iI 1) hx hb dX12_fits8_61 (by decide +kernel) ?_
                  refine x_addv (v := z35 + 1) hx hb dX12_fits8_62 (by omega) ?_
                  refine x_iast hx hb hK hP hDD hS 51 1 wm51 rfl (by omega) (by decide) dX12_fits8_63 ws51 (fun H locs hP hS => ?_)
                  have hI := hI.st (j := 51) (i := (z2).toNat) (v := z35 + 1) (show (-1 : Int) ≤ z35 + 1 ∧ z35 + 1 ≤ 8 from (by omega))
                  refine lv_goto (tgt := 36) hx hb dX12_fits8_64 (by decide) ?_
                  obtain ⟨A36, hA36⟩ : ∃ A36 : St, A36 = (stA A20 51 (z2).toNat (z35 + 1)) := ⟨_, rfl⟩
                  rw [← hA36] at hP hI
                  have ezw : z35 = A20 51 (z2).toNat := by omega
                  have eW : A36 51 = up (A20 51) (z2).toNat (A20 51 (z2).toNat + 1) := by rw [hA36, stA_same, ← ezw]
                  have e1 : A36 51 (z2).toNat = A20 51 (z2).toNat + 1 := by rw [eW, up_same]
                  exact ih22 _ (by omega) _ _ _ _ (by exact Hd.mk (by rw [hA36, stA_same, up_same, f24.out, up_up])) (by omega) (by exact Hd.mk (fun h => by rw [e1]; exact used_step (by omega) (f26.out h) (hw33.2.out (by omega)) eW)) (fun zq uq ⟨mm1, mm2, hq⟩ => hk2 _ _ ⟨mm1, mm2 + 1, (u_d_X12_fits8_2 ⟨gI27.out, ⟨z28, gz28.out, (Or.inr ⟨c29, ⟨z31, ghw33, (Or.inr ⟨c34, ⟨z35, gz35.out, ⟨A36, hA36, hq⟩⟩⟩)⟩⟩)⟩⟩)⟩) rfl hI (fr_def hA36 (fr.st (fr.trans (fr.rf) hj19 rfl rfl) (by decide) rfl)) hP hS (lv_sub hl [0, 1, 2] rfl)
          have e0 : A18 51 (z2).toNat = z17 + 1 := by rw [hA18, stA_same, up_same]
          exact L36_21 _ _ _ _ _ (by exact Hd.mk up_id) (by omega) (by exact Hd.mk (fun h => by have g := f10.out h; rw [← hz17] at g; intro c hc; omega)) (fun zq uq ⟨mm1, mm2, hq⟩ => hk1 _ _ ⟨mm1 + 1, (u_d_X12_fits8_1 ⟨gI11.out, ⟨f8, (Or.inr ⟨c12, ⟨z14, gz14.out, (Or.inr ⟨c15, ⟨z17, gz17.out, ⟨A18, hA18, ⟨mm2, hq⟩⟩⟩⟩)⟩⟩)⟩⟩)⟩) rfl hI (fr.rf) hP hS (lv_sub hl [0, 1, 2] rfl)
  exact L9_5 _ 0 _ _ _ _ (by omega) (by exact Hd.mk (fun i hi => by have hi2 : (i : Int) ≤ 0 := hi; have e : i = 0 := (by omega); rw [e, hA1]; show (-1 : Int) < x1; omega)) (by exact Hd.mk (fun _ => ⟨by omega, by rw [hA1]; rfl⟩)) (fun zq uq ⟨mm1, hq⟩ => (u_r_X12_fits8 ⟨A1, hA1, ⟨mm1, hq⟩⟩)) rfl hI (fr.rf) hP hS (lv_sub hl [0, 1, 2] rfl)

abbrev tr_d_X12_fewest_2 (x1 : Int) (z : Int) (u : St) (K2 : Int → St → Prop) (z10 : Int) (A12 : St) : Prop := ((IM A12) ∧ ((0 ≤ z10 ∧ z10 ≤ 6) ∧ (∃ z19 : Int, ∃ A20 : St, q_X12_fits8 z10 A12 z19 A20 ∧ (((¬ z19 = 0) ∧ (((¬ x1 = (-1)) ∧ (∃ z25 : Int, z25 = A20 51 (x1).toNat ∧ (z = z25 ∧ u = A20))) ∨ ((x1 = (-1)) ∧ (z = z10 ∧ u = A20)))) ∨ ((z19 = 0) ∧ (K2 (z10 + 1) A20))))))
def d_X12_fewest_2 (x1 : Int) (z : Int) (u : St) : Nat → Int → St → Prop
  | 0, _, _ => False
  | nn9 + 1, z10, A12 => tr_d_X12_fewest_2 x1 z u (fun z10 A12 => d_X12_fewest_2 x1 z u nn9 z10 A12) z10 A12
theorem u_d_X12_fewest_2 {x1 : Int} {z : Int} {u : St} {nn9 : Nat} {z10 : Int} {A12 : St} (h : tr_d_X12_fewest_2 x1 z u (fun z10 A12 => d_X12_fewest_2 x1 z u nn9 z10 A12) z10 A12) : d_X12_fewest_2 x1 z u (nn9 + 1) z10 A12 := h
abbrev tr_d_X12_fewest_1 (x1 : Int) (A : St) (z : Int) (u : St) : Prop := (∃ nn9 : Nat, d_X12_fewest_2 x1 z u nn9 0 A)
def d_X12_fewest_1 (x1 : Int) (A : St) (z : Int) (u : St) : Prop := tr_d_X12_fewest_1 x1 A z u
theorem u_d_X12_fewest_1 {x1 : Int} {A : St} {z : Int} {u : St} (h : tr_d_X12_fewest_1 x1 A z u) : d_X12_fewest_1 x1 A z u := h
abbrev tr_r_X12_fewest (x1 : Int) (A : St) (z : Int) (u : St) : Prop := (((x1 = (-1)) ∧ (d_X12_fewest_1 x1 A z u)) ∨ ((¬ x1 = (-1)) ∧ (∃ z3 : Int, z3 = A 25 ((A 0 12)).toNat ∧ (∃ z4 : Int, q_X12_is x1 0 (z3 - 1) A z4 ∧ (((¬ z4 = 0) ∧ (d_X12_fewest_1 x1 A z u)) ∨ ((z4 = 0) ∧ (z = (-1) ∧ u = A)))))))
def r_X12_fewest (x1 : Int) (A : St) (z : Int) (u : St) : Prop := tr_r_X12_fewest x1 A z u
theorem u_r_X12_fewest {x1 : Int} {A : St} {z : Int} {u : St} (h : tr_r_X12_fewest x1 A z u) : r_X12_fewest x1 A z u := h
def ws_mb_X12_fewest : List Cond := .code yX12_fewest cX12_fewest 3 (some .int) :: WX
set_option maxHeartbeats 4000000 in
set_option maxRecDepth 100000 in
theorem mb_X12_fewest (l : Launch) (dC : Nat → ClassId) (dI : Nat → Nat → Nat) (cB cI cJ cZ cQ : ClassId) (q : Nat → Nat) (A : St) (x1 : Int) (hI : IM A) (hx1 : (-2147483648 : Int) ≤ x1 ∧ x1 ≤ 2147483647) : XMi l yX12_fewest ws_mb_X12_fewest ({ frames := 3, cells := 0, slots := 0, locals := 71 } : Room) (dC, dI) (tyA cB cI cJ cZ cQ) (WM cI cJ cZ q) A [.ref (q 0), .int (iI x1)] (fun z u => r_X12_fewest x1 A z u ∧ IM u ∧ fr [51] [] A u ∧ (-2147483648 ≤ z ∧ z ≤ 2147483647)) := by
  refine x_meti (cc := cX12_fewest) (maxL := 3) WM_adr (by decide +kernel) rfl (Nat.le_of_ble_eq_true rfl) (fun p e s m below meth c Q AS ls hx hb hml hown hts hK hDD hA0 hP hS hl RET => ?_)
  have hown : s.vm.findClass RX12 = some m.cls := hown
  have hl : lv_has ls 3 [(0, .ref (q 0)), (1, .int (iI x1))] := hl
  have hiX12 : ∀ w ∈ u_ws RX12 TX12 85, w ∈ ws_mb_X12_fewest := fun w h => List.mem_cons_of_mem _ (wx_lay w h)
  obtain ⟨H, hHe⟩ : ∃ H : Heap, H = s.heap := ⟨_, rfl⟩
  rw [← hHe] at hP
  have hS : va_S AS s.heap H [] := by rw [hHe]; exact hS
  suffices hgo : ∀ locs : List Loc, va_S AS s.heap H locs → W p l e (headSpec ws_mb_X12_fewest ({ frames := 3, cells := 0, slots := 0, locals := 71 } : Room)).room s m [.ref (q 0), .int (iI x1)].toArray below meth c H locs 0 0 Q (F0 m 0 ls []) by
    have := hgo [] hS
    rw [hHe] at this
    exact this
  clear hS hHe
  intro locs hS
  refine lv_iload_n hx hb dX12_fewest_0 rfl (lv_at hl 1 rfl) ?_
  refine lv_iconst (v := iI (-1)) hx hb dX12_fewest_1 (by decide +kernel) ?_
  have J26_2 : ∀ (H : Heap) (locs : List Loc) (ls : Array Slot), (x1 = -1 ∨ (0 ≤ x1 ∧ x1 ≤ 5)) → (∀ (z : Int) (u : St), (d_X12_fewest_1 x1 A z u) → r_X12_fewest x1 A z u) → va_P (dC, dI) vwCl (WM cI cJ cZ q A) H → va_S AS s.heap H locs → lv_has ls 3 [(0, .ref (q 0)), (1, .int (iI x1))] → W p l e (headSpec ws_mb_X12_fewest ({ frames := 3, cells := 0, slots := 0, locals := 71 } : Room)).room s m [.ref (q 0), .int (iI x1)].toArray below meth c H locs 0 0 Q (F0 m 26 ls []) := by
    intro H locs ls f9 hk1 hP hS hl
    refine lv_iconst (v := iI 0) hx hb dX12_fewest_26 (by decide +kernel) ?_
    refine lv_istore_n (lv' := [(2, .int (iI 0)), (0, .ref (q 0)), (1, .int (iI x1))]) hx hb dX12_fewest_27 rfl hl (by decide) rfl (fun ls hl => ?_)
    have L28_13 : ∀ (n15 : Nat) (z10 : Int) (A12 : St) (H : Heap) (locs : List Loc) (ls : Array Slot), (0 ≤ z10 ∧ z10 ≤ 6) → (z10 ≤ A 25 (A 0 12).toNat) → (∀ (z : Int) (u : St), (∃ mm2 : Nat, (d_X12_fewest_2 x1 z u mm2 z10 A12)) → r_X12_fewest x1 A z u) → ((A 25 (A 0 12).toNat - z10).toNat = n15) → IM A12 → fr [51] [] A A12 → va_P (dC, dI) vwCl (WM cI cJ cZ q A12) H → va_S AS s.heap H locs → lv_has ls 3 [(2, .int (iI z10)), (0, .ref (q 0)), (1, .int (iI x1))] → W p l e (headSpec ws_mb_X12_fewest ({ frames := 3, cells := 0, slots := 0, locals := 71 } : Room)).room s m [.ref (q 0), .int (iI x1)].toArray below meth c H locs 0 0 Q (F0 m 28 ls []) := by
      intro n15
      induction n15 using Nat.strongRecOn with
      | ind n15 ih14 =>
        intro z10 A12 H locs ls f16 f17 hk2 hn15 hI hj11 hP hS hl
        have gI18 : Hd (IM A12) := Hd.mk hI
        have hIb := hI
        refine lv_aload_n hx hb dX12_fewest_28 rfl (lv_at hl 1 rfl) ?_
        refine lv_iload_n hx hb dX12_fewest_29 rfl (lv_at hl 0 rfl) ?_
        have e_A12_12 : A12 0 12 = (A 0 12) := (hj11.2 12 rfl)
        have r_A_0_12 : (0 : Int) ≤ (A 0 12) ∧ (A 0 12) ≤ 1 := by rw [← e_A12_12]; exact hI 0 12
        refine x_calli (As := [.int (iI z10)]) (rest := []) ⟨hx, hb, hml, hown, hts⟩ (mb_X12_fits8 l dC dI cB cI cJ cZ cQ q _ z10 hI f16) (cwV 1 hts (goodV (wl_in_7 _ (List.mem_of_getElem? (i := 59) rfl)) (wl_in_8 _ (List.mem_of_getElem? (i := 0) rfl)) (wl_in_8 _ (List.mem_of_getElem? (i := 1) rfl)) (wl_in_0 _ (List.mem_of_getElem? (i := 8) rfl)) (wl_in_7 _ (List.mem_of_getElem? (i := 54) rfl))) rfl rfl rfl (by decide +kernel) ⟨Nat.le_of_ble_eq_true rfl, Nat.le_of_ble_eq_true rfl⟩) hK hDD hA0 hP hS 0 12 wm0 rfl rfl hl.1 (Nat.le_of_ble_eq_true rfl) dX12_fewest_30 (fun z19 A20 H locs hw21 hP hS => ?_)
        have ghw21 : q_X12_fits8 z10 A12 z19 A20 := hw21
        obtain ⟨_, hI, hf22, hw21⟩ := hw21
        have rz19 : 0 ≤ z19 ∧ z19 ≤ 1 := hw21.1
        refine lv_if_ne (tgt := 42) hx hb dX12_fewest_33 (by decide) (fun c23 => ?_) (fun c23 => ?_)
        · have c23 : ¬ z19 = 0 := mt (i_eq0 (rb rz19 (by decide) (by decide))).mpr c23
          refine lv_iload_n hx hb dX12_fewest_42 rfl (lv_at hl 2 rfl) ?_
          refine lv_iconst (v := iI (-1)) hx hb dX12_fewest_43 (by decide +kernel) ?_
          refine lv_icmp_ne (tgt := 51) hx hb dX12_fewest_44 (by decide) (fun c24 => ?_) (fun c24 => ?_)
          · have c24 : ¬ x1 = (-1) := mt (i_eq hx1 ⟨by decide, by decide⟩).mpr c24
            refine lv_aload_n hx hb dX12_fewest_51 rfl (lv_at hl 1 rfl) ?_
            refine va_get (D := (dC, dI)) (ci := 12) (v := .ref (q 51)) (C := RX12) (T := TX12) (N := 85) hx hb hts hiX12 hown hK hP 0 wm0 rfl 74 (by decide) (hts _ (List.mem_cons_of_mem _ (wl_in_7 _ (List.mem_of_getElem? (i := 53) rfl)))) (fun _ h9 => h9) rfl dX12_fewest_52 ?_
            refine lv_iload_n hx hb dX12_fewest_55 rfl (lv_at hl 2 rfl) ?_
            refine x_iald hx hb hK hP 51 1 wm51 rfl (by omega) (by decide) dX12_fewest_56 (fun z25 hz25 => ?_)
            have rz25 : (-1 : Int) ≤ z25 ∧ z25 ≤ 8 := by rw [hz25]; exact hI 51 _
            have gz25 := Hd.mk hz25
            have hz25 : z25 = A20 51 (x1).toNat := hz25
            exact RET z25 _ _ _ _ _ ⟨hk2 _ _ ⟨0 + 1, (u_d_X12_fewest_2 ⟨gI18.out, ⟨f16, ⟨z19, A20, ghw21, (Or.inl ⟨c23, (Or.inl ⟨c24, ⟨z25, gz25.out, ⟨rfl, rfl⟩⟩⟩)⟩)⟩⟩⟩)⟩, hI, fr.trans (fr.trans (fr.rf) hj11 rfl rfl) hf22 rfl rfl, by omega⟩ hP hS dX12_fewest_57
          · have c24 : x1 = (-1) := (i_eq hx1 ⟨by decide, by decide⟩).mp c24
            refine lv_iload_n hx hb dX12_fewest_47 rfl (lv_at hl 0 rfl) ?_
            refine lv_goto (tgt := 57) hx hb dX12_fewest_48 (by decide) ?_
            exact RET z10 _ _ _ _ _ ⟨hk2 _ _ ⟨0 + 1, (u_d_X12_fewest_2 ⟨gI18.out, ⟨f16, ⟨z19, A20, ghw21, (Or.inl ⟨c23, (Or.inr ⟨c24, ⟨rfl, rfl⟩⟩)⟩)⟩⟩⟩)⟩, hI, fr.trans (fr.trans (fr.rf) hj11 rfl rfl) hf22 rfl rfl, by omega⟩ hP hS dX12_fewest_57
        · have c23 : z19 = 0 := (i_eq0 (rb rz19 (by decide) (by decide))).mp c23
          refine lv_iinc (v := iI (z10 + 1)) (lv' := [(2, .int (iI (z10 + 1))), (0, .ref (q 0)), (1, .int (iI x1))]) hx hb dX12_fewest_36 hl (k := 0) rfl (i_inc (by omega)) (by decide) rfl (fun ls hl => ?_)
          refine lv_goto (tgt := 28) hx hb dX12_fewest_39 (by decide) ?_
          have gf := hw21.2.out
          have ca26 : A12 25 = A 25 := (hj11.1 25 (by decide) rfl)
          rw [e_A12_12, ca26] at gf
          have rmu : (0 : Int) ≤ A 25 (A 0 12).toNat ∧ A 25 (A 0 12).toNat ≤ 6 := by rw [← ca26]; exact hIb 25 _
          exact ih14 _ (by omega) (z10 + 1) _ _ _ _ (by omega) (by omega) (fun zq uq ⟨mm2, hq⟩ => hk2 _ _ ⟨mm2 + 1, (u_d_X12_fewest_2 ⟨gI18.out, ⟨f16, ⟨z19, A20, ghw21, (Or.inr ⟨c23, hq⟩)⟩⟩⟩)⟩) rfl hI (fr.trans (fr.trans (fr.rf) hj11 rfl rfl) hf22 rfl rfl) hP hS (lv_sub hl [0, 1, 2] rfl)
    have rmu : (0 : Int) ≤ A 25 (A 0 12).toNat ∧ A 25 (A 0 12).toNat ≤ 6 := hI 25 _
    exact L28_13 _ 0 _ _ _ _ (by omega) (by omega) (fun zq uq ⟨mm2, hq⟩ => hk1 _ _ (u_d_X12_fewest_1 ⟨mm2, hq⟩)) rfl hI (fr.rf) hP hS (lv_sub hl [0, 1, 2] rfl)
  refine lv_icmp_eq (tgt := 26) hx hb dX12_fewest_2 (by decide) (fun c1 => ?_) (fun c1 => ?_)
  · have c1 : x1 = (-1) := (i_eq hx1 ⟨by decide, by decide⟩).mp c1
    exact J26_2 _ _ _ (by omega) (fun zq uq hq => (u_r_X12_fewest (Or.inl ⟨c1, hq⟩))) hP hS (lv_sub hl [0, 1] rfl)
  · have c1 : ¬ x1 = (-1) := mt (i_eq hx1 ⟨by decide, by decide⟩).mpr c1
    refine lv_iload_n hx hb dX12_fewest_5 rfl (lv_at hl 1 rfl) ?_
    refine lv_iconst (v := iI 0) hx hb dX12_fewest_6 (by decide +kernel) ?_
    refine lv_aload_n hx hb dX12_fewest_7 rfl (lv_at hl 0 rfl) ?_
    refine va_get (D := (dC, dI)) (ci := 12) (v := .ref (q 25)) (C := RX12) (T := TX12) (N := 85) hx hb hts hiX12 hown hK hP 0 wm0 rfl 36 (by decide) (hts _ (List.mem_cons_of_mem _ (wl_in_3 _ (List.mem_of_getElem? (i := 20) rfl)))) (fun _ h9 => h9) rfl dX12_fewest_8 ?_
    refine lv_aload_n hx hb dX12_fewest_11 rfl (lv_at hl 0 rfl) ?_
    refine va_get (D := (dC, dI)) (ci := 12) (v := .int (iI (A 0 12))) (C := RX12) (T := TX12) (N := 85) hx hb hts hiX12 hown hK hP 0 wm0 rfl 12 (by decide) (hts _ (List.mem_cons_of_mem _ (wl_in_4 _ (List.mem_of_getElem? (i := 14) rfl)))) (fun _ h9 => h9) rfl dX12_fewest_12 ?_
    have r_A_0_12 : (0 : Int) ≤ (A 0 12) ∧ (A 0 12) ≤ 1 := hI 0 12
    refine x_iald hx hb hK hP 25 1 wm25 rfl (by omega) (by decide) dX12_fewest_15 (fun z3 hz3 => ?_)
    have rz3 : (0 : Int) ≤ z3 ∧ z3 ≤ 6 := by rw [hz3]; exact hI 25 _
    have gz3 := Hd.mk hz3
    have hz3 : z3 = A 25 ((A 0 12)).toNat := hz3
    refine lv_iconst (v := iI 1) hx hb dX12_fewest_16 (by decide +kernel) ?_
    refine x_subv (v := z3 - 1) hx hb dX12_fewest_17 (by omega) ?_
    refine x_callSi (As := [.int (iI x1), .int (iI 0), .int (iI (z3 - 1))]) (rest := []) ⟨hx, hb, hml, hown, hts⟩ (mc_X12_is l dC dI cB cI cJ cZ cQ q _ x1 0 (z3 - 1) hI hx1 ⟨by decide, by decide⟩ (by omega)) (va_cwS 3 hts (goodS (wl_in_1 _ (List.mem_of_getElem? (i := 27) rfl)) (wl_in_1 _ (List.mem_of_getElem? (i := 28) rfl)) (wl_in_0 _ (List.mem_of_getElem? (i := 8) rfl)) (wl_in_0 _ (List.mem_of_getElem? (i := 0) rfl))) rfl rfl rfl (by decide +kernel) ⟨Nat.le_of_ble_eq_true rfl, Nat.le_of_ble_eq_true rfl⟩) hK hDD hA0 hP hS rfl hl.1 (Nat.le_of_ble_eq_true rfl) dX12_fewest_18 (fun z4 A5 H locs hw6 hP hS => ?_)
    obtain ⟨rfl, hw6⟩ := hw6
    have ghw6 : q_X12_is x1 0 (z3 - 1) A z4 := hw6
    have hw6 := hw6.2
    have rz4 : 0 ≤ z4 ∧ z4 ≤ 1 := hw6.1
    refine lv_if_ne (tgt := 26) hx hb dX12_fewest_21 (by decide) (fun c7 => ?_) (fun c7 => ?_)
    · have c7 : ¬ z4 = 0 := mt (i_eq0 (rb rz4 (by decide) (by decide))).mpr c7
      have hw6b := hw6.2.mp (by omega)
      clear hw6
      exact J26_2 _ _ _ (by omega) (fun zq uq hq => (u_r_X12_fewest (Or.inr ⟨c1, ⟨z3, gz3.out, ⟨z4, ghw6, (Or.inl ⟨c7, hq⟩)⟩⟩⟩))) hP hS (lv_sub hl [0, 1] rfl)
    · have c7 : z4 = 0 := (i_eq0 (rb rz4 (by decide) (by decide))).mp c7
      have hw6b := mt hw6.2.mpr (by omega)
      clear hw6
      refine lv_iconst (v := iI (-1)) hx hb dX12_fewest_24 (by decide +kernel) ?_
      exact RET (-1) _ _ _ _ _ ⟨(u_r_X12_fewest (Or.inr ⟨c1, ⟨z3, gz3.out, ⟨z4, ghw6, (Or.inr ⟨c7, ⟨rfl, rfl⟩⟩)⟩⟩⟩)), hI, fr.rf, by omega⟩ hP hS dX12_fewest_25
