/-! An image that is read in: both alike. -/
theorem on_act {z1 z2 : Int} {B A u1 u2 : St} (hIK : IK B) (hIM : IM A) (he : B 1 1 = A 0 1) (hT : TB B A) (hp : PSs B A) (ha : ACS B A) (h1 : r_X11_on B z1 u1) (hf1 : fk [33, 34, 35, 37, 38, 39, 40, 42, 43, 44, 46, 47, 48, 49, 50, 74, 75, 76, 78, 79, 80, 81, 105, 106, 107, 109, 110, 111, 112] [(1, 1)] B u1) (h2 : q_X12_on A z2 u2) : z1 = z2 ∧ ACS u1 u2 := by
  have hTt := tB hIK
  have hA := ha.act hIM hp
  have l := hA.lim hIM
  have f9 : u1 0 9 = B 0 9 := hf1 0 9 rfl rfl
  have mb := MBc.fr hTt ha.2 hf1 rfl rfl h2.2.2.1 rfl
  have rows := tw_rows hTt hf1 [1, 8, 9, 10, 11] rfl rfl
  have fr2 := h2.2.2.1
  obtain ⟨b, hb⟩ : ∃ b : Nat, (A 0 12).toNat = b := ⟨_, rfl⟩
  obtain ⟨t, ht⟩ : ∃ t : Nat, t = 51 + 31 * (B 0 9).toNat := ⟨_, rfl⟩
  unfold ACS
  rw [f9, fr2.2 12 rfl]
  rw [hb] at hA mb ⊢
  rw [← ht] at hA l mb rows hTt ⊢
  have t51 : t = 51 ∨ t = 82 := hTt
  have hv := hA.2.2.2.2
  have l0 : B (t + 1) 0 ≤ 8 := l.1
  have l1 : B (t + 1) 1 ≤ 10 := l.2.1
  have l2 : B (t + 1) 2 ≤ 4 := l.2.2.1
  have l3 : B (t + 1) 3 ≤ 3 := l.2.2.2
  have p3 : 0 ≤ B (t + 1) 3 := hv.1.2.2.2.1
  have p2 : 0 ≤ B (t + 1) 2 := hv.1.2.2.1
  have r01 : (0 : Int) ≤ A 0 1 ∧ A 0 1 ≤ 1600 := hIM 0 1
  obtain ⟨N, hN⟩ : ∃ N : Nat, A 0 1 = (N : Int) := ⟨(A 0 1).toNat, by omega⟩
  obtain ⟨P, hP⟩ : ∃ P : Nat, B (t + 1) 3 = (P : Int) := ⟨(B (t + 1) 3).toNat, by omega⟩
  obtain ⟨K, hK⟩ : ∃ K : Nat, B (t + 1) 2 = (K : Int) := ⟨(B (t + 1) 2).toNat, by omega⟩
  have h0 : ∀ k, 0 ≤ (fun k => B 2 k % 256) k ∧ (fun k => B 2 k % 256) k ≤ 255 := fun k => by
    show 0 ≤ B 2 k % 256 ∧ B 2 k % 256 ≤ 255
    omega
  obtain ⟨f, hfd⟩ : ∃ f : Nat → Int, f = fun k => B 2 k % 256 := ⟨_, rfl⟩
  rw [← hfd] at h0
  have hfK : ∀ k, k < N → f k = B 2 k % 256 := fun k _ => by rw [hfd]
  have hfM : ∀ k, k < N → A 1 k = f k := fun k hk => by rw [hfd]; exact hT k (by omega)
  obtain ⟨t2, ht2, z3, A4, hac, A7, e7, h1⟩ := (h1 : tr_r_X11_on B z1 u1)
  rw [← ht] at ht2
  subst ht2
  have ka := K_accept hTt hP hK (by omega) (by omega) l0 (by rw [he, hN]) (by omega) h0 hfK hac
  obtain ⟨A1, e1, y2, hw, h2⟩ := (h2.1 : tr_r_X12_on A z2 u2)
  have ne : ∀ j, j ≠ 0 → A1 j = A j := fun j hj => by rw [e1, stA_ne _ _ hj]
  have hI1 : IM A1 := by
    rw [e1]
    exact hIM.st (show (0 : Int) ≤ 0 ∧ (0 : Int) ≤ 1600 from ⟨by decide, by decide⟩)
  have b1 : A1 0 12 = (b : Int) := by rw [e1]; exact hA.1
  have hA1 : ACT b A1 (tw t2 B) := by
    refine ⟨b1, MRs.cg hA.2.1 (fun j hj => ne j ?_) (fun _ _ => rfl) rfl, hA.2.2.cg l2 sT.rf ⟨ne 13 (by decide), ne 14 (by decide), ne 15 (by decide), ne 18 (by decide)⟩⟩
    intro e0
    subst e0
    exact absurd hj (by decide)
  rw [hN] at hw
  have mw := M_isWhole hI1 hA1 p3 p2 (fun k hk => by rw [ne 1 (by decide)]; exact hfM k hk) h0 hw
  have end1 : z1 = z3 ∧ ∀ j, 51 ≤ j → u1 j = A4 j := by
    rcases h1 with ⟨_, hz, hu⟩ | ⟨_, z10, A11, hr, hz, hu⟩
    · exact ⟨hz, fun j hj => by rw [hu, e7, stA_ne _ _ (by omega)]⟩
    · refine ⟨hz, fun j hj => ?_⟩
      funext k
      have n50 : ([50] : List Nat).contains j = false := by
        cases hc : ([50] : List Nat).contains j with
        | false => rfl
        | true =>
          have := List.contains_iff_mem.mp hc
          simp at this
          omega
      rw [hu, hr.2.2.1 j k n50 rfl, e7, stA_ne _ _ (by omega)]
  rcases mw with ⟨yz, wh⟩ | ⟨yz, nw⟩
  · rcases ka with ⟨zz, _, fin⟩ | ⟨_, nw, _⟩
    case inr => exact absurd wh nw
    rcases h2 with ⟨_, nn, h2⟩ | ⟨c, -⟩
    case inr => omega
    have eP : (tw t2 B 1 3).toNat = P := by show (B (t2 + 1) 3).toNat = P; omega
    have eK : (tw t2 B 1 2).toNat = K := by show (B (t2 + 1) 2).toNat = K; omega
    obtain ⟨w1, w2, w3, w4⟩ := wh
    rw [eP] at w2
    rw [eP, eK] at w3
    have geP := ps_ge (f := f) (N := N) (P := P) 0 K
    rw [Nat.zero_add] at geP
    have eP0 : ps f N P 0 = P := rfl
    have kOk : ∀ k, k < K → keyOk (tw t2 B) f N (ps f N P k) := fun k hk => w2 k (by show (k : Int) < B (t2 + 1) 2; omega)
    have ok : ∀ k, k < K → ps f N P k + 2 + (tp f N (ps f N P k + 1)).toNat < N ∧ 0 ≤ f (ps f N P k + 1) ∧ f (ps f N P k + 1) ≤ 6 := by
      intro k hk
      have nx : ps f N P (k + 1) = ps f N P k + 2 + (tp f N (ps f N P k + 1)).toNat := rfl
      have mono := ps_ge (f := f) (N := N) (P := P) (k + 1) (K - (k + 1))
      rw [show k + 1 + (K - (k + 1)) = K by omega] at mono
      have b6 := (kOk k hk).2.1
      have t1 := tp_in (f := f) (N := N) (show ps f N P k + 1 < N by omega)
      rw [t1] at b6
      exact ⟨by omega, b6⟩
    have cn := hA1.cnt
    have mo := M_on1 (f := f) (N := N) (P := P) (K := K) (A := A) (u := u2) (z := z2) hA.1 (hA.cnt.2.2.2.trans hP) (hA.cnt.2.2.1.trans hK) (by omega) hfM ok nn 0 A1 (Nat.zero_le P) (ne 1 (by decide)) (ne 11 (by decide)) (ne 16 (by decide)) (fun p' g => absurd g (Nat.not_lt_zero p')) h2
    obtain ⟨z21, m18, mK⟩ := mo
    obtain ⟨f1, f2, f3, f4⟩ := fin
    refine ⟨by rw [end1.1, zz, z21], ?_, mb⟩
    have q1 : tw t2 u1 1 = tw t2 B 1 := rows 1 rfl
    have q8 : tw t2 u1 8 = tw t2 B 8 := rows 8 rfl
    have q9 : tw t2 u1 9 = tw t2 B 9 := rows 9 rfl
    have q10 : tw t2 u1 10 = tw t2 B 10 := rows 10 rfl
    have q11 : tw t2 u1 11 = tw t2 B 11 := rows 11 rfl
    have d23 : ∀ p, p < P → tw t2 u1 23 p = tp f N p := fun p hp2 => by
      show u1 (t2 + 23) p = _
      rw [end1.2 _ (by omega)]
      exact f2 p hp2
    have d24 : ∀ k, k < K → tw t2 u1 24 k = tp f N (ps f N P k) := fun k hk => by
      show u1 (t2 + 24) k = _
      rw [end1.2 _ (by omega)]
      exact (f3 k hk).1
    have d25 : ∀ k, k < K → tw t2 u1 25 k = tp f N (ps f N P k + 1) := fun k hk => by
      show u1 (t2 + 25) k = _
      rw [end1.2 _ (by omega)]
      exact (f3 k hk).2.1
    have d27 : ∀ k, k < K → ∀ i : Nat, (i : Int) < tp f N (ps f N P k + 1) → tw t2 u1 (27 + k) i = tp f N (ps f N P k + 2 + i) := fun k hk i hi => by
      show u1 (t2 + (27 + k)) i = _
      rw [end1.2 _ (by omega)]
      exact (f3 k hk).2.2 i hi
    have d25z : ∀ k, K ≤ k → k < 4 → tw t2 u1 25 k = 0 := fun k g1 g2 => by
      show u1 (t2 + 25) k = 0
      rw [end1.2 _ (by omega), f4 k g1 g2]
      exact hv.2.2.2.2.1 k g2 (by show B (t2 + 1) 2 ≤ (k : Int); omega)
    have pin : ∀ k, k < K → ps f N P k < N := fun k hk => by have := (ok k hk).1; omega
    have G : GR (tw t2 B) (tw t2 u1) := by
      refine ⟨?_, fun k _ => ?_⟩
      · rw [q1]
        exact ⟨Int.le_refl _, Int.le_refl _, Int.le_refl _, Int.le_refl _, Int.le_refl _⟩
      · rw [q8, q9, q10]
        exact ⟨rfl, rfl, rfl⟩
    have c3 : tw t2 B 1 3 = (P : Int) := hP
    have c2 : tw t2 B 1 2 = (K : Int) := hK
    have vt : VT (tw t2 u1) := by
      refine ⟨by rw [q1]; exact hv.1, fun k hk => ?_, fun p hp2 => ?_, fun k hk => ?_, fun k hk g => ?_, fun k hk => ?_⟩
      · rw [q1] at hk
        exact (hv.2.1 k hk).gr hk G
      · rw [q1] at hp2
        rw [q1, d23 p (by omega)]
        exact w1 p hp2
      · rw [q1, c2] at hk
        have hk : k < K := by omega
        obtain ⟨y1, y2, y3, y4⟩ := kOk k hk
        unfold KV
        rw [d24 k hk, d25 k hk, q1]
        refine ⟨y2, fun i hi => ?_, fun i j hij hj => ?_, y1.gr G⟩
        · rw [d27 k hk i hi]
          exact y3 i (by omega)
        · rw [d27 k hk i (by omega), d27 k hk j hj]
          exact y4 i j hij (by omega)
      · rw [q1, c2] at g
        exact d25z k (by omega) hk
      · rw [q1] at hk
        rw [q11]
        exact (hv.2.2.2.2.2 k hk).gr G
    refine ⟨⟨fun k hk => ?_, fun k hk g => ?_⟩, fun p hp2 => ?_, vt⟩
    · rw [q1, c2] at hk
      have hk : k < K := by omega
      obtain ⟨x1, x2, x3⟩ := mK k hk
      have o := ok k hk
      have t0 := tp_in (f := f) (N := N) (pin k hk)
      have t1 := tp_in (f := f) (N := N) (show ps f N P k + 1 < N by omega)
      rw [d24 k hk, d25 k hk, t0, t1]
      refine ⟨x1, x2, fun i hi => ?_⟩
      rw [d27 k hk i (by rw [t1]; exact hi), tp_in (f := f) (N := N) (show ps f N P k + 2 + i < N by rw [t1] at o; omega)]
      exact x3 i hi
    · rw [q1, c2] at g
      exact d25z k (by omega) hk
    · rw [q1, c3] at hp2
      have hp3 : p < P := by omega
      rw [d23 p hp3, tp_in (f := f) (N := N) (show p < N by omega)]
      exact m18 p hp3
  · rcases ka with ⟨_, wh, _⟩ | ⟨zz, _, up⟩
    · exact absurd wh nw
    rcases h2 with ⟨c, -⟩ | ⟨_, y67, A68, hr2, hz2, hu2⟩
    · omega
    refine ⟨by rw [end1.1, zz, hz2], ?_, mb⟩
    have keepM : sM A u2 := by
      rw [hu2]
      refine sM.trans ⟨ne 13 (by decide), ne 14 (by decide), ne 15 (by decide), ne 18 (by decide)⟩ (sM.fr hr2.2.2.1 rfl rfl rfl rfl)
    refine hA.2.2.cg l2 (fun j hj => ?_) keepM
    funext k
    show u1 (t2 + j) k = B (t2 + j) k
    rw [end1.2 _ (by omega), up _ (by omega)]
