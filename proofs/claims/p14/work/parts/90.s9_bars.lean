/-! A bar holds in both or in neither. -/
theorem M_made {s a b z : Int} {A : St} (hs : 10 ≤ s ∧ s ≤ 21) (ok : okV (sc s) a b) (hj : q_X12_made s a b A z) : z = jn (sc s) a b := by
  obtain ⟨ha, hb, hl⟩ := ok
  have mv := mul_vn (a := a) (b := b) ha hb
  rcases (hj.1 : tr_r_X12_made s a b A z) with ⟨c, z2, e2, z3, ⟨_, c3, d3⟩, h⟩ | ⟨c, z5, e5, z6, h6, hz⟩ | ⟨c, z9, e9, z10, h10, hz⟩ | ⟨c, z13, e13, z14, h14, hz⟩ | ⟨c, z17, h17, hz⟩ | ⟨c, z20, ⟨_, c20, _⟩, h⟩ | ⟨c, z27, ⟨_, c27, d27⟩, h⟩ | ⟨c, z29, ⟨_, c29, d29⟩, h⟩ | ⟨c, z31, ⟨_, c31, d31⟩, h⟩ | ⟨c, z33, ⟨_, c33, d33⟩, h⟩ | ⟨c, z35, ⟨_, c35, _⟩, h⟩ | ⟨c, z37, e37, hz⟩
  · have s21 : s = 21 := by omega
    subst s21
    rw [show sc 21 = -7 by decide, jn_7]
    rw [pAdd_id ⟨by omega, by omega⟩] at e2
    rcases h with ⟨g, hz⟩ | ⟨g, hz⟩
    · rw [if_neg (by omega)]; exact hz
    · rw [if_pos (by omega)]; exact hz
  · subst c
    rw [pAdd_id ⟨by omega, by omega⟩] at e5
    rw [hz, M_bounded h6, e5, show sc 10 = -12 by decide, jn_12]
  · subst c
    rw [pSub_id ⟨by omega, by omega⟩] at e9
    rw [hz, M_bounded h10, e9, show sc 11 = -13 by decide, jn_13]
  · subst c
    rw [pMul_id ⟨by omega, by omega⟩] at e13
    rw [hz, M_bounded h14, e13, show sc 12 = -14 by decide, jn_14]
  · subst c
    rw [show sc 13 = -15 by decide, jn_15]
    by_cases g : b = 0
    · rw [if_pos g, hz]
      obtain ⟨z1, ⟨_, c1, _⟩, h⟩ := (h17.1 : tr_r_X12_over a b A z17)
      rcases h with ⟨n1, _⟩ | ⟨_, hz⟩
      · exact absurd (c1.mpr g) n1
      · exact hz
    · rw [if_neg g, hz]
      exact M_over ha hb g h17
  · subst c
    rw [show sc 14 = -16 by decide, jn_16]
    rcases h with ⟨n0, z22, h22, z25, e25, z26, e26, hz⟩ | ⟨y0, hz⟩
    · have nb : ¬ b = 0 := fun g => n0 (c20.mpr g)
      rw [if_neg nb]
      have o := M_over ha hb nb h22
      have fv := fmod_vn (a := a) hb nb
      have fd := Int.fmod_def a b
      obtain ⟨f1, f2⟩ := fv
      rw [o, pMul_id ⟨by omega, by omega⟩] at e25
      rw [e25, pSub_id ⟨by omega, by omega⟩] at e26
      omega
    · rw [if_pos (c20.mp y0)]; exact hz
  · subst c
    rw [show sc 15 = -17 by decide, jn_17]
    rcases h with ⟨g, hz⟩ | ⟨g, hz⟩
    · rw [if_neg (by omega)]; exact hz
    · rw [if_pos (by omega)]; exact hz
  · subst c
    rw [show sc 16 = -18 by decide, jn_18]
    rcases h with ⟨g, hz⟩ | ⟨g, hz⟩
    · rw [if_neg (by omega)]; exact hz
    · rw [if_pos (by omega)]; exact hz
  · subst c
    rw [show sc 17 = -9 by decide, jn_9]
    rcases h with ⟨g, hz⟩ | ⟨g, hz⟩
    · rw [if_neg (by omega)]; exact hz
    · rw [if_pos (by omega)]; exact hz
  · subst c
    rw [show sc 18 = -10 by decide, jn_10]
    rcases h with ⟨g, hz⟩ | ⟨g, hz⟩
    · rw [if_neg (by omega)]; exact hz
    · rw [if_pos (by omega)]; exact hz
  · subst c
    rw [show sc 19 = -11 by decide, jn_11]
    rcases h with ⟨g, hz⟩ | ⟨g, hz⟩
    · rw [if_neg (by omega)]; exact hz
    · rw [if_pos (by omega)]; exact hz
  · subst c
    rw [pMul_id ⟨by omega, by omega⟩] at e37
    rw [hz, e37, show sc 20 = -8 by decide, jn_8]
theorem step1_inv {L : Nat} {E : Nat → Int} {w : Int} {s t : List Int} (h : step1 L E w s = some t) : (-5 ≤ w ∧ s.length < L ∧ t = vlE E w :: s) ∨ (w = -6 ∧ ∃ x r, s = x :: r ∧ V1 x ∧ t = (1 - x) :: r) ∨ (w < -6 ∧ ∃ b a r, s = b :: a :: r ∧ okV w a b ∧ t = jn w a b :: r) := by
  unfold step1 at h
  by_cases c : -5 ≤ w
  · rw [if_pos c] at h
    cases hb : lfB L s.length (vlE E w) with
    | false => rw [hb] at h; exact absurd h (by simp)
    | true =>
      rw [hb] at h
      have h : some (vlE E w :: s) = some t := h
      have lb := hb
      unfold lfB at lb
      simp only [Bool.and_eq_true, decide_eq_true_eq] at lb
      exact Or.inl ⟨c, lb.1, (Option.some.inj h).symm⟩
  · rw [if_neg c] at h
    by_cases c2 : w = -6
    · rw [if_pos c2] at h
      cases s with
      | nil => exact absurd h (by simp)
      | cons x r =>
        have h : (bif decide (x = 0) || decide (x = 1) then some ((1 - x) :: r) else none) = some t := h
        cases hb : decide (x = 0) || decide (x = 1) with
        | false => rw [hb] at h; exact absurd h (by simp)
        | true =>
          rw [hb] at h
          have h : some ((1 - x) :: r) = some t := h
          simp only [Bool.or_eq_true, decide_eq_true_eq] at hb
          exact Or.inr (Or.inl ⟨c2, x, r, rfl, hb, (Option.some.inj h).symm⟩)
    · rw [if_neg c2] at h
      cases s with
      | nil => exact absurd h (by simp)
      | cons b s =>
        cases s with
        | nil => exact absurd h (by simp)
        | cons a r =>
          have h : (bif okB w a b then some (jn w a b :: r) else none) = some t := h
          cases hb : okB w a b with
          | false => rw [hb] at h; exact absurd h (by simp)
          | true =>
            rw [hb] at h
            have h : some (jn w a b :: r) = some t := h
            exact Or.inr (Or.inr ⟨by omega, b, a, r, rfl, okB_iff.mp hb, (Option.some.inj h).symm⟩)
theorem run_cons {L : Nat} {E : Nat → Int} {w : Int} {W s r : List Int} (h : run L E (w :: W) s = some r) : ∃ t, step1 L E w s = some t ∧ run L E W t = some r := by
  have h : (step1 L E w s).bind (run L E W) = some r := h
  cases hc : step1 L E w s with
  | none => rw [hc] at h; exact absurd h (by simp)
  | some t =>
    rw [hc] at h
    exact ⟨t, rfl, h⟩
theorem PD.push {g : Nat → Int} {x : Int} {s : List Int} {n : Nat} (h : PD 0 g s) (hn : n = s.length) : PD 0 (up g n x) (x :: s) := by
  subst hn
  refine ⟨by rw [Nat.zero_add, up_same], PD.cg s (fun i _ hi => up_ne _ _ (by omega)) h⟩
theorem K_value {w who spot held closed z : Int} {A : St} {E : Nat → Int} (h1 : E 1 = who) (h2 : E 2 = spot) (h3 : E 3 = held) (h4 : E 4 = closed) (hw : -5 ≤ w) (h : q_X8_value w who spot held closed A z) : z = vlE E w := by
  unfold vlE
  rcases (h.1 : tr_r_X8_value w who spot held closed A z) with ⟨c, hz⟩ | ⟨c, hz⟩ | ⟨c, hz⟩ | ⟨c, hz⟩ | ⟨c, hz⟩ | ⟨c, hz⟩
  · rw [if_neg (by omega), if_neg (by omega), if_neg (by omega), if_neg (by omega), if_neg (by omega)]; exact hz
  · rw [if_neg (by omega), if_neg (by omega), if_neg (by omega), if_neg (by omega), if_pos c]; exact hz
  · rw [if_neg (by omega), if_neg (by omega), if_neg (by omega), if_pos c, h4]; exact hz
  · rw [if_neg (by omega), if_neg (by omega), if_pos c, h3]; exact hz
  · rw [if_neg (by omega), if_pos c, h2]; exact hz
  · rw [if_pos c, h1]; exact hz
theorem K_holdsL {ta : Nat} {to who spot held closed z v : Int} {A0 u : St} {E : Nat → Int} (h1 : E 1 = who) (h2 : E 2 = spot) (h3 : E 3 = held) (h4 : E 4 = closed) (hv : V1 v) (hto : to ≤ A0 ta 2) : ∀ (nn : Nat) (W s : List Int) (k : Nat) (A : St), (∀ i, i < W.length → A (ta + 1) (k + i) = W.getD i 0) → (k : Int) + (W.length : Int) = to → PD 0 (A (ta + 2)) s → run 64 E W s = some [v] → d_X8_holds_1 ta to who spot held closed A0 z u nn (k : Int) (s.length : Int) A → z = v := by
  intro nn
  induction nn with
  | zero => intro W s k A _ _ _ _ h; exact h.elim
  | succ nn ih =>
    intro W s k A hW hk hP hr h
    obtain ⟨_, _, _, h⟩ := (h : tr_d_X8_holds_1 ta to who spot held closed A0 z u (fun z2 z3 A5 => d_X8_holds_1 ta to who spot held closed A0 z u nn z2 z3 A5) (k : Int) (s.length : Int) A)
    cases W with
    | nil =>
      have l0 : (([] : List Int).length : Int) = 0 := rfl
      have e : s = [v] := Option.some.inj hr
      rcases h with ⟨_, h⟩ | ⟨c, _⟩
      · subst e
        rcases (h : tr_d_X8_holds_3 ta (([v] : List Int).length : Int) A z u) with ⟨c, _⟩ | ⟨_, z46, e46, h⟩
        · exact absurd rfl c
        · have e46 : z46 = A (ta + 2) 0 := e46
          have p0 : A (ta + 2) 0 = v := hP.1
          rw [p0] at e46
          rcases h with ⟨c, hz, _⟩ | ⟨c, hz, _⟩
          · rcases hv with g | g <;> omega
          · omega
      · omega
    | cons w W =>
      have lw : ((w :: W).length : Int) = (W.length : Int) + 1 := rfl
      obtain ⟨t, st, rt⟩ := run_cons hr
      have w0 : A (ta + 1) k = w := hW 0 (Nat.succ_pos _)
      have hW2 : ∀ (B : St), B (ta + 1) = A (ta + 1) → ∀ i, i < W.length → B (ta + 1) (k + 1 + i) = W.getD i 0 := by
        intro B e i hi
        have g := hW (i + 1) (Nat.succ_lt_succ hi)
        rw [e, show k + 1 + i = k + (i + 1) by omega]
        exact g
      have next : ∀ (x : Int) (B : St) (n : Nat), x = (t.length : Int) → B = stA A (ta + 2) n (B (ta + 2) n) → PD 0 (B (ta + 2)) t → d_X8_holds_2 (fun z2 z3 A5 => d_X8_holds_1 ta to who spot held closed A0 z u nn z2 z3 A5) (k : Int) z u x B → z = v := by
        intro x B n hx eB pB h
        obtain ⟨_, _, h⟩ := (h : tr_d_X8_holds_2 _ (k : Int) z u x B)
        rw [hx] at h
        refine ih W t (k + 1) B (hW2 B ?_) (by omega) pB rt h
        rw [eB]
        exact stA_ne _ _ (by omega)
      have idx : ∀ (n : Nat) (y : Int), stA A (ta + 2) n y = stA A (ta + 2) n ((stA A (ta + 2) n y) (ta + 2) n) := by
        intro n y
        rw [stA_same, up_same]
      rcases h with ⟨c, _⟩ | ⟨_, h⟩
      · omega
      · rcases h with ⟨c, _⟩ | ⟨_, z19, e19, h⟩
        · omega
        · rw [Int.toNat_natCast, w0] at e19
          rcases step1_inv st with ⟨hw, hl, et⟩ | ⟨hw, x, r, es, vx, et⟩ | ⟨hw, b, a, r, es, ok, et⟩
          · rcases h with ⟨c, _⟩ | ⟨_, h⟩
            · omega
            · rcases h with ⟨_, z35, h35, A38, e38, h⟩ | ⟨c, _⟩
              · rw [e19] at h35
                have v35 := K_value h1 h2 h3 h4 hw h35
                rw [Int.toNat_natCast] at e38
                refine next _ A38 s.length ?_ (by rw [e38]; exact idx _ _) ?_ h
                · rw [et]; rfl
                · rw [e38, stA_same, et, ← v35]
                  exact PD.push hP rfl
              · omega
          · subst es
            have lr : ((x :: r).length : Int) = (r.length : Int) + 1 := rfl
            rcases h with ⟨_, h⟩ | ⟨c, _⟩
            · rcases h with ⟨c, hx⟩ | ⟨_, h⟩
              · clear hx
                omega
              · rcases h with ⟨_, z31, e31, z32, e32, A33, e33, h⟩ | ⟨c, _⟩
                · rw [show (((x :: r).length : Int) - 1).toNat = r.length by omega] at e31 e33
                  have px : A (ta + 2) r.length = x := by
                    have := hP.1
                    rw [Nat.zero_add] at this
                    exact this
                  rw [px] at e31
                  have e32 : z32 = 1 - x := by
                    rw [e32, e31]
                    rcases vx with rfl | rfl
                    · exact oWrap_id ⟨by decide, by decide⟩
                    · exact oWrap_id ⟨by decide, by decide⟩
                  refine next _ A33 r.length ?_ (by rw [e33]; exact idx _ _) ?_ h
                  · rw [et]; rfl
                  · rw [e33, stA_same, et, e32]
                    exact PD.push hP.2 rfl
                · omega
            · omega
          · subst es
            have lr : ((b :: a :: r).length : Int) = (r.length : Int) + 2 := by
              show ((r.length + 1 + 1 : Nat) : Int) = _
              omega
            rcases h with ⟨_, h⟩ | ⟨c, _⟩
            · rcases h with ⟨_, h⟩ | ⟨c, _⟩
              · rcases h with ⟨_, z24, e24, z25, e25, z26, h26, A29, e29, h⟩ | ⟨c, _⟩
                · rw [show (((b :: a :: r).length : Int) - 1).toNat = r.length + 1 by omega] at e25
                  rw [show (((b :: a :: r).length : Int) - 2).toNat = r.length by omega] at e24 e29
                  have pb : A (ta + 2) (r.length + 1) = b := by
                    have := hP.1
                    rw [Nat.zero_add] at this
                    exact this
                  have pa : A (ta + 2) r.length = a := by
                    have := hP.2.1
                    rw [Nat.zero_add] at this
                    exact this
                  rw [pa] at e24
                  rw [pb] at e25
                  rw [e19, e24, e25] at h26
                  have j := K_joined hw ok h26
                  refine next _ A29 r.length ?_ (by rw [e29]; exact idx _ _) ?_ h
                  · rw [et, lr]
                    show (r.length : Int) + 2 - 1 = ((r.length + 1 : Nat) : Int)
                    omega
                  · rw [e29, stA_same, et, j]
                    exact PD.push hP.2.2 rfl
                · omega
              · omega
            · omega
theorem M_worksL {b : Nat} {to z v : Int} {A0 u : St} {E : Nat → Int} (hE : ∀ i, R32 (E i)) (hb : A0 0 12 = (b : Int)) : ∀ (nn : Nat) (R s : List Int) (k : Nat) (A : St), (∀ i, i < R.length → ENC (A 33 (k + i)) (A 34 (k + i)) (R.getD i 0)) → (k : Int) + (R.length : Int) = 1600 * (b : Int) + to → PD 0 (A 42) s → (∀ i, 1 ≤ i → i ≤ 4 → A 43 i = E i) → run 64 E R s = some [v] → d_X12_works_1 to A0 z u nn (k : Int) (s.length : Int) A → z = v := by
  intro nn
  induction nn with
  | zero => intro R s k A _ _ _ _ _ h; exact h.elim
  | succ nn ih =>
    intro R s k A hR hk hP hM hr h
    obtain ⟨_, _, _, h⟩ := (h : tr_d_X12_works_1 to A0 z u (fun z1 z2 A4 => d_X12_works_1 to A0 z u nn z1 z2 A4) (k : Int) (s.length : Int) A)
    rw [hb] at h
    cases R with
    | nil =>
      have l0 : (([] : List Int).length : Int) = 0 := rfl
      have e : s = [v] := Option.some.inj hr
      rcases h with ⟨_, z17, e17, hz, _⟩ | ⟨c, _⟩
      · subst e
        have e17 : z17 = A 42 0 := e17
        have p0 : A 42 0 = v := hP.1
        rw [hz, e17, p0]
      · omega
    | cons w R =>
      have lw : ((w :: R).length : Int) = (R.length : Int) + 1 := rfl
      obtain ⟨t, st, rt⟩ := run_cons hr
      have w0 : ENC (A 33 k) (A 34 k) w := hR 0 (Nat.succ_pos _)
      have next : ∀ (x : Int) (B : St) (n : Nat) (y : Int), x = (t.length : Int) → B = stA A 42 n y → PD 0 (B 42) t → d_X12_works_1 to A0 z u nn ((k : Int) + 1) x B → z = v := by
        intro x B n y hx eB pB h
        rw [hx] at h
        refine ih R t (k + 1) B (fun i hi => ?_) (by omega) pB (fun i h1 h2 => ?_) rt h
        · have g := hR (i + 1) (Nat.succ_lt_succ hi)
          rw [eB, show k + 1 + i = k + (i + 1) by omega]
          exact g
        · rw [eB]
          exact hM i h1 h2
      rcases h with ⟨c, _⟩ | ⟨_, z18, e18, h⟩
      · omega
      · rw [Int.toNat_natCast] at e18
        have leaf : ∀ y : Int, y = vlE E w → t = vlE E w :: s → d_X12_works_2 (fun z1 z2 A4 => d_X12_works_1 to A0 z u nn z1 z2 A4) (k : Int) (s.length : Int) A z u y → z = v := by
          intro y hy et h
          obtain ⟨_, A40, e40, h⟩ := (h : tr_d_X12_works_2 _ (k : Int) (s.length : Int) A z u y)
          rw [Int.toNat_natCast] at e40
          refine next _ A40 s.length y ?_ e40 ?_ h
          · rw [et]; rfl
          · rw [e40, stA_same, et, hy]
            exact PD.push hP rfl
        rcases w0 with ⟨s0, ew, v0, v9⟩ | ⟨n0, ew, sr, sq⟩
        · rw [s0] at e18
          rcases step1_inv st with ⟨_, _, et⟩ | ⟨hw, _⟩ | ⟨hw, _⟩
          · rcases h with ⟨c, _⟩ | ⟨_, h⟩
            · omega
            · rcases h with ⟨c, _⟩ | ⟨_, z35, e35, z36, e36, h⟩
              · exact absurd e18 c
              · rw [Int.toNat_natCast, ← ew] at e35
                rw [e35, oI2l_id ⟨by omega, by omega⟩] at e36
                refine leaf _ ?_ et h
                rw [e36]
                unfold vlE
                rw [if_neg (by omega), if_neg (by omega), if_neg (by omega), if_neg (by omega), if_neg (by omega)]
          · omega
          · omega
        · obtain ⟨q, hq⟩ : ∃ q, A 33 k = q := ⟨_, rfl⟩
          rw [hq] at n0 ew sr sq e18
          by_cases q4 : q ≤ 4
          · have w4 : w = -q := by
              rw [ew]
              unfold sc
              rw [if_neg (by omega), if_neg (by omega), if_neg (by omega), if_neg (by omega), if_neg (by omega), if_neg (by omega), if_neg (by omega), if_pos (by omega)]
            rcases step1_inv st with ⟨_, _, et⟩ | ⟨hw, _⟩ | ⟨hw, _⟩
            · rcases h with ⟨c, _⟩ | ⟨_, h⟩
              · omega
              · rcases h with ⟨_, h⟩ | ⟨c, _⟩
                · rcases h with ⟨_, z33, e33, z34, e34, h⟩ | ⟨c, _⟩
                  · have e33 : z33 = E q.toNat := by
                      rw [e33, e18]
                      exact hM q.toNat (by omega) (by omega)
                    have ve : vlE E w = E q.toNat := by
                      rw [w4]
                      rcases (show q = 1 ∨ q = 2 ∨ q = 3 ∨ q = 4 by omega) with rfl | rfl | rfl | rfl <;> rfl
                    refine leaf _ ?_ et h
                    rw [e34, e33, ve]
                    exact oI2l_id (hE q.toNat)
                  · omega
                · omega
            · omega
            · omega
          · rcases sq with g | q9
            · exact absurd g q4
            · by_cases e9 : q = 9
              · have w5 : w = -5 := by rw [ew, e9]; rfl
                rcases step1_inv st with ⟨_, _, et⟩ | ⟨hw, _⟩ | ⟨hw, _⟩
                · rcases h with ⟨c, _⟩ | ⟨_, h⟩
                  · omega
                  · rcases h with ⟨_, h⟩ | ⟨c, _⟩
                    · rcases h with ⟨c, _⟩ | ⟨_, h⟩
                      · omega
                      · refine leaf _ ?_ et h
                        rw [w5]; rfl
                    · omega
                · omega
                · omega
              · rcases h with ⟨_, h⟩ | ⟨c, hx⟩
                · by_cases e22 : q = 22
                  · have w6 : w = -6 := by rw [ew, e22]; rfl
                    rcases h with ⟨c, _⟩ | ⟨_, z27, e27, z28, e28, A29, e29, h⟩
                    · omega
                    · rcases step1_inv st with ⟨hw, _⟩ | ⟨_, x, r, es, vx, et⟩ | ⟨hw, _⟩
                      · omega
                      · subst es
                        have lr : ((x :: r).length : Int) = (r.length : Int) + 1 := rfl
                        rw [show (((x :: r).length : Int) - 1).toNat = r.length by omega] at e27 e29
                        have px : A 42 r.length = x := by
                          have := hP.1
                          rw [Nat.zero_add] at this
                          exact this
                        rw [px] at e27
                        have e28 : z28 = 1 - x := by
                          rw [e28, e27]
                          rcases vx with rfl | rfl
                          · exact pSub_id ⟨by decide, by decide⟩
                          · exact pSub_id ⟨by decide, by decide⟩
                        refine next _ A29 r.length _ ?_ e29 ?_ h
                        · rw [et]; rfl
                        · rw [e29, stA_same, et, e28]
                          exact PD.push hP.2 rfl
                      · omega
                  · have wlt : sc q < -6 := by
                      unfold sc
                      rw [if_neg e22]
                      repeat' split
                      all_goals omega
                    rcases h with ⟨_, z21, e21, z22, e22', z23, h23, A26, e26, h⟩ | ⟨c, _⟩
                    · rcases step1_inv st with ⟨hw, _⟩ | ⟨hw, _⟩ | ⟨hw, b', a, r, es, ok, et⟩
                      · omega
                      · omega
                      · subst es
                        have lr : ((b' :: a :: r).length : Int) = (r.length : Int) + 2 := by
                          show ((r.length + 1 + 1 : Nat) : Int) = _
                          omega
                        rw [show (((b' :: a :: r).length : Int) - 1).toNat = r.length + 1 by omega] at e22'
                        rw [show (((b' :: a :: r).length : Int) - 2).toNat = r.length by omega] at e21 e26
                        have pb : A 42 (r.length + 1) = b' := by
                          have := hP.1
                          rw [Nat.zero_add] at this
                          exact this
                        have pa : A 42 r.length = a := by
                          have := hP.2.1
                          rw [Nat.zero_add] at this
                          exact this
                        rw [pa] at e21
                        rw [pb] at e22'
                        rw [e18, e21, e22'] at h23
                        rw [ew] at ok et
                        have j := M_made ⟨by omega, by omega⟩ ok h23
                        refine next _ A26 r.length _ ?_ e26 ?_ h
                        · rw [et, lr]
                          show (r.length : Int) + 2 - 1 = ((r.length + 1 : Nat) : Int)
                          omega
                        · rw [e26, stA_same, et, j]
                          exact PD.push hP.2.2 rfl
                    · omega
                · clear hx
                  omega
def env4 (p s h c : Int) : Nat → Int := fun i => if i = 1 then p else if i = 2 then s else if i = 3 then h else if i = 4 then c else 0
theorem barred_eq {t b : Nat} {B A u1 u2 : St} {d p s h c z1 z2 : Int} (hT : isT t) (cnt : A 29 b = B (t + 1) 7) (hb : A 0 12 = (b : Int)) (bars : ∀ k : Nat, (k : Int) < B (t + 1) 7 → A 30 (6 * b + k) = B (t + 16) k) (hc : MBc b A (tw t B)) (hE : (0 ≤ p ∧ p ≤ 1000) ∧ (0 ≤ s ∧ s ≤ 1000) ∧ (0 ≤ h ∧ h ≤ 1000) ∧ (0 ≤ c ∧ c ≤ 1000)) (h1 : q_X9_isBarred t d p s h c B z1 u1) (h2 : q_X12_isBarred d p s h c A z2 u2) : z1 = z2 := by
  have eb : EB (env4 p s h c) := by
    intro i
    unfold env4
    repeat' split
    all_goals omega
  have rE : ∀ i, R32 (env4 p s h c i) := fun i => by
    have := eb i
    exact ⟨by omega, by omega⟩
  obtain ⟨n1, h1⟩ := (h1.1 : tr_r_X9_isBarred t d p s h c B z1 u1)
  obtain ⟨A1, e1, n2, h2⟩ := (h2.1 : tr_r_X12_isBarred d p s h c A z2 u2)
  have sameT : ∀ B' : St, fk [72, 103] [] B B' → ∀ j, (j = 1 ∨ j = 16 ∨ j = 17 ∨ j = 18 ∨ j = 19 ∨ j = 20) → B' (t + j) = B (t + j) := by
    intro B' g j hj
    funext k
    refine g _ k ?_ rfl
    rcases hT with rfl | rfl
    · rcases hj with rfl | rfl | rfl | rfl | rfl | rfl <;> rfl
    · rcases hj with rfl | rfl | rfl | rfl | rfl | rfl <;> rfl
  have loop : ∀ (n1 n2 k : Nat) (B' A' : St), fk [72, 103] [] B B' → fr [42] [] A1 A' → d_X9_isBarred_1 t d p s h c z1 u1 n1 (k : Int) B' → d_X12_isBarred_1 d A z2 u2 n2 (6 * (b : Int) + (k : Int)) A' → z1 = z2 := by
    intro n1
    induction n1 with
    | zero => intro n2 k B' A' _ _ h _; exact h.elim
    | succ n1 ih =>
      intro n2 k B' A' gB gA h1 h2
      cases n2 with
      | zero => exact h2.elim
      | succ n2 =>
        obtain ⟨_, _, z12, e12, h1⟩ := (h1 : tr_d_X9_isBarred_1 t d p s h c z1 u1 (fun z1' A3 => d_X9_isBarred_1 t d p s h c z1 u1 n1 z1' A3) (k : Int) B')
        obtain ⟨_, _, z13, e13, h2⟩ := (h2 : tr_d_X12_isBarred_1 d A z2 u2 (fun z2' A4 => d_X12_isBarred_1 d A z2 u2 n2 z2' A4) (6 * (b : Int) + (k : Int)) A')
        have e12 : z12 = B' (t + 1) 7 := e12
        rw [sameT B' gB 1 (Or.inl rfl)] at e12
        have a1 : ∀ j, j ≠ 0 → j ≠ 42 → j ≠ 43 → A' j = A j := by
          intro j h0 h42 h43
          have x : ([42] : List Nat).contains j = false := by
            cases hc : ([42] : List Nat).contains j with
            | false => rfl
            | true =>
              have := List.contains_iff_mem.mp hc
              simp at this
              exact absurd this h42
          rw [gA.1 j h0 x, e1, stA_ne _ _ h43, stA_ne _ _ h43, stA_ne _ _ h43, stA_ne _ _ h43]
        rw [hb, Int.toNat_natCast, a1 29 (by decide) (by decide) (by decide), cnt] at e13
        rw [hb] at h2
        rcases h1 with ⟨c1, hz1, _⟩ | ⟨c1, z15, e15, h1⟩
        · rcases h2 with ⟨_, hz2, _⟩ | ⟨c2, _⟩
          · rw [hz1, hz2]
          · omega
        · rcases h2 with ⟨c2, _⟩ | ⟨_, z15', e15', h2⟩
          · omega
          · have hk : (k : Int) < B (t + 1) 7 := by omega
            rw [Int.toNat_natCast, sameT B' gB 16 (Or.inr (Or.inl rfl))] at e15
            rw [show (6 * (b : Int) + (k : Int)).toNat = 6 * b + k by omega, a1 30 (by decide) (by decide) (by decide), bars k hk] at e15'
            have on : ∀ (B2 A2 : St), fk [72, 103] [] B B2 → fr [42] [] A1 A2 → d_X9_isBarred_2 (fun z1' A3 => d_X9_isBarred_1 t d p s h c z1 u1 n1 z1' A3) (k : Int) z1 u1 B2 → d_X12_isBarred_2 (fun z2' A4 => d_X12_isBarred_1 d A z2 u2 n2 z2' A4) (6 * (b : Int) + (k : Int)) z2 u2 A2 → z1 = z2 := by
              intro B2 A2 g1 g2 h1 h2
              obtain ⟨_, h1⟩ := (h1 : tr_d_X9_isBarred_2 _ (k : Int) z1 u1 B2)
              obtain ⟨_, h2⟩ := (h2 : tr_d_X12_isBarred_2 _ (6 * (b : Int) + (k : Int)) z2 u2 A2)
              rw [show 6 * (b : Int) + (k : Int) + 1 = 6 * (b : Int) + ((k + 1 : Nat) : Int) by omega] at h2
              exact ih n2 (k + 1) B2 A2 g1 g2 h1 h2
            rcases h1 with ⟨c3, h1⟩ | ⟨c3, z19, e19, z21, e21, z22, A23, hh, h1⟩
            · rcases h2 with ⟨_, h2⟩ | ⟨c4, _⟩
              · exact on B' A' gB gA h1 h2
              · exact absurd (by rw [e15, ← e15']; exact c4) c3
            · rcases h2 with ⟨c4, _⟩ | ⟨_, z18, e18, z19', e19', z28, A29, hw, z32, ⟨_, c32, _⟩, h2⟩
              · exact absurd (by rw [e15', ← e15]; exact c3) c4
              · obtain ⟨C, R, y1, y2, y3, y4, y5, y6, y7, y8, y9⟩ := hc k hk
                obtain ⟨v, vb, vr⟩ := y9 (env4 p s h c) eb
                have vr := vr 64 [] (by show 0 + 30 ≤ 64; decide)
                rw [Int.toNat_natCast, sameT B' gB 17 (Or.inr (Or.inr (Or.inl rfl)))] at e19
                rw [Int.toNat_natCast, sameT B' gB 18 (Or.inr (Or.inr (Or.inr (Or.inl rfl))))] at e21
                have y1 : 0 ≤ B (t + 17) k := y1
                have y2 : B (t + 18) k = B (t + 17) k + (C.length : Int) := y2
                have y3 : B (t + 18) k ≤ B (t + 19) 2 := y3
                have y4 : ∀ i, i < C.length → B (t + 20) ((B (t + 17) k).toNat + i) = C.getD i 0 := y4
                have vz1 : z22 = v := by
                  obtain ⟨zf, ⟨f1, f2, f3⟩, nn, hl⟩ := (hh.1 : tr_r_X8_holds (t + 19) z19 z21 p s h c B' z22 A23)
                  have ef : zf = ((B (t + 17) k).toNat : Int) := by omega
                  rw [ef] at hl
                  refine K_holdsL (E := env4 p s h c) rfl rfl rfl rfl vb ?_ nn C [] _ B' (fun i hi => ?_) ?_ True.intro vr.1 hl
                  · rw [sameT B' gB 19 (Or.inr (Or.inr (Or.inr (Or.inr (Or.inl rfl)))))]
                    omega
                  · show B' (t + 20) _ = _
                    rw [sameT B' gB 20 (Or.inr (Or.inr (Or.inr (Or.inr (Or.inr rfl)))))]
                    exact y4 i hi
                  · omega
                rw [show (6 * (b : Int) + (k : Int)).toNat = 6 * b + k by omega, a1 31 (by decide) (by decide) (by decide)] at e18
                rw [show (6 * (b : Int) + (k : Int)).toNat = 6 * b + k by omega, a1 32 (by decide) (by decide) (by decide)] at e19'
                have b12 : A' 0 12 = (b : Int) := by
                  rw [gA.2 12 rfl, e1]
                  exact hb
                have vz2 : z28 = v := by
                  obtain ⟨nn, hl⟩ := (hw.1 : tr_r_X12_works z18 z19' A' z28 A29)
                  rw [b12] at hl
                  have ek : 1600 * (b : Int) + z18 = ((1600 * b + (A 31 (6 * b + k)).toNat : Nat) : Int) := by omega
                  rw [ek] at hl
                  refine M_worksL (E := env4 p s h c) rE b12 nn R [] _ A' (fun i hi => ?_) (by omega) True.intro (fun i i1 i4 => ?_) vr.2 hl
                  · rw [a1 33 (by decide) (by decide) (by decide), a1 34 (by decide) (by decide) (by decide)]
                    exact y8 i hi
                  · rw [gA.1 43 (by decide) rfl, e1]
                    rcases (show i = 1 ∨ i = 2 ∨ i = 3 ∨ i = 4 by omega) with rfl | rfl | rfl | rfl <;> rfl
                have g23 : fk [72, 103] [] B A23 := fk.trans gB hh.2.2.1 rfl rfl
                have g29 : fr [42] [] A1 A29 := fr.trans gA hw.2.2.1 rfl rfl
                rcases h1 with ⟨c5, h1⟩ | ⟨c5, hz1, _⟩
                · rcases h2 with ⟨_, h2⟩ | ⟨c6, _⟩
                  · exact on A23 A29 g23 g29 h1 h2
                  · rcases vb with g | g <;> omega
                · rcases h2 with ⟨c6, _⟩ | ⟨_, hz2, _⟩
                  · rcases vb with g | g <;> omega
                  · rw [hz1, hz2]
  have g1 : fr [42] [] A1 A1 := fr.rf
  rw [hb] at h2
  exact loop n1 n2 0 B A1 fk.rf g1 h1 (by rw [show 6 * (b : Int) + ((0 : Nat) : Int) = 6 * (b : Int) by omega]; exact h2)
