/-! A bar holds in both or in neither. -/
theorem M_made {s a b z : Int} {A : St} (hs : 10 ≤ s ∧ s ≤ 21) (ok : okV (sc s) a b) (hj : q_X12_made s a b A z) : z = jn (sc s) a b := by
  obtain ⟨ha, hb, hl⟩ := ok
  have mv := mul_vn (a := a) (b := b) ha hb
  rcases (hj.1 : tr_r_X12_made s a b A z) with ⟨c, z2, e2, z3, ⟨_, c3, d3⟩, h⟩ | ⟨c, z5, e5, z6, h6, hz⟩ | ⟨c, z9, e9, z10, h10, hz⟩ | ⟨c, z13, e13, z14, h14, hz⟩ | ⟨c, z17, h17, hz⟩ | ⟨c, z20, ⟨_, c20, _⟩, h⟩ | ⟨c, z27, ⟨_, c27, d27⟩, h⟩ | ⟨c, z29, ⟨_, c29, d29⟩, h⟩ | ⟨c, z31, ⟨_, c31, d31⟩, h⟩ | ⟨c, z33, ⟨_, c33, d33⟩, h⟩ | ⟨c, z35, ⟨_, c35, _⟩, h⟩ | ⟨c, z37, e37, hz⟩
  · have s21 : s = 21 := by omega
    subst s21
    rw [show sc 21 = -7 by decide, jn_7]
    rw [pAdd_id ⟨by omega, by omega⟩] at e2
    rcases h with ⟨g, hz⟩ | ⟨g, hz⟩
    · rw [if_neg (by omega)]; exact hz
    · rw [if_pos (by omega)]; exact hz
  · subst c
    rw [pAdd_id ⟨by omega, by omega⟩] at e5
    rw [hz, M_bounded h6, e5, show sc 10 = -12 by decide, jn_12]
  · subst c
    rw [pSub_id ⟨by omega, by omega⟩] at e9
    rw [hz, M_bounded h10, e9, show sc 11 = -13 by decide, jn_13]
  · subst c
    rw [pMul_id ⟨by omega, by omega⟩] at e13
    rw [hz, M_bounded h14, e13, show sc 12 = -14 by decide, jn_14]
  · subst c
    rw [show sc 13 = -15 by decide, jn_15]
    by_cases g : b = 0
    · rw [if_pos g, hz]
      obtain ⟨z1, ⟨_, c1, _⟩, h⟩ := (h17.1 : tr_r_X12_over a b A z17)
      rcases h with ⟨n1, _⟩ | ⟨_, hz⟩
      · exact absurd (c1.mpr g) n1
      · exact hz
    · rw [if_neg g, hz]
      exact M_over ha hb g h17
  · subst c
    rw [show sc 14 = -16 by decide, jn_16]
    rcases h with ⟨n0, z22, h22, z25, e25, z26, e26, hz⟩ | ⟨y0, hz⟩
    · have nb : ¬ b = 0 := fun g => n0 (c20.mpr g)
      rw [if_neg nb]
      have o := M_over ha hb nb h22
      have fv := fmod_vn (a := a) hb nb
      have fd := Int.fmod_def a b
      obtain ⟨f1, f2⟩ := fv
      rw [o, pMul_id ⟨by omega, by omega⟩] at e25
      rw [e25, pSub_id ⟨by omega, by omega⟩] at e26
      omega
    · rw [if_pos (c20.mp y0)]; exact hz
  · subst c
    rw [show sc 15 = -17 by decide, jn_17]
    rcases h with ⟨g, hz⟩ | ⟨g, hz⟩
    · rw [if_neg (by omega)]; exact hz
    · rw [if_pos (by omega)]; exact hz
  · subst c
    rw [show sc 16 = -18 by decide, jn_18]
    rcases h with ⟨g, hz⟩ | ⟨g, hz⟩
    · rw [if_neg (by omega)]; exact hz
    · rw [if_pos (by omega)]; exact hz
  · subst c
    rw [show sc 17 = -9 by decide, jn_9]
    rcases h with ⟨g, hz⟩ | ⟨g, hz⟩
    · rw [if_neg (by omega)]; exact hz
    · rw [if_pos (by omega)]; exact hz
  · subst c
    rw [show sc 18 = -10 by decide, jn_10]
    rcases h with ⟨g, hz⟩ | ⟨g, hz⟩
    · rw [if_neg (by omega)]; exact hz
    · rw [if_pos (by omega)]; exact hz
  · subst c
    rw [show sc 19 = -11 by decide, jn_11]
    rcases h with ⟨g, hz⟩ | ⟨g, hz⟩
    · rw [if_neg (by omega)]; exact hz
    · rw [if_pos (by omega)]; exact hz
  · subst c
    rw [pMul_id ⟨by omega, by omega⟩] at e37
    rw [hz, e37, show sc 20 = -8 by decide, jn_8]
theorem step1_inv {L : Nat} {E : Nat → Int} {w : Int} {s t : List Int} (h : step1 L E w s = some t) : (-5 ≤ w ∧ s.length < L ∧ t = vlE E w :: s) ∨ (w = -6 ∧ ∃ x r, s = x :: r ∧ V1 x ∧ t = (1 - x) :: r) ∨ (w < -6 ∧ ∃ b a r, s = b :: a :: r ∧ okV w a b ∧ t = jn w a b :: r) := by
  unfold step1 at h
  by_cases c : -5 ≤ w
  · rw [if_pos c] at h
    cases hb : lfB L s.length (vlE E w) with
    | false => rw [hb] at h; exact absurd h (by simp)
    | true =>
      rw [hb] at h
      have h : some (vlE E w :: s) = some t := h
      have lb := hb
      unfold lfB at lb
      simp only [Bool.and_eq_true, decide_eq_true_eq] at lb
      exact Or.inl ⟨c, lb.1, (Option.some.inj h).symm⟩
  · rw [if_neg c] at h
    by_cases c2 : w = -6
    · rw [if_pos c2] at h
      cases s with
      | nil => exact absurd h (by simp)
      | cons x r =>
        have h : (bif decide (x = 0) || decide (x = 1) then some ((1 - x) :: r) else none) = some t := h
        cases hb : decide (x = 0) || decide (x = 1) with
        | false => rw [hb] at h; exact absurd h (by simp)
        | true =>
          rw [hb] at h
          have h : some ((1 - x) :: r) = some t := h
          simp only [Bool.or_eq_true, decide_eq_true_eq] at hb
          exact Or.inr (Or.inl ⟨c2, x, r, rfl, hb, (Option.some.inj h).symm⟩)
    · rw [if_neg c2] at h
      cases s with
      | nil => exact absurd h (by simp)
      | cons b s =>
        cases s with
        | nil => exact absurd h (by simp)
        | cons a r =>
          have h : (bif okB w a b then some (jn w a b :: r) else none) = some t := h
          cases hb : okB w a b with
          | false => rw [hb] at h; exact absurd h (by simp)
          | true =>
            rw [hb] at h
            have h : some (jn w a b :: r) = some t := h
            exact Or.inr (Or.inr ⟨by omega, b, a, r, rfl, okB_iff.mp hb, (Option.some.inj h).symm⟩)
theorem run_cons {L : Nat} {E : Nat → Int} {w : Int} {W s r : List Int} (h : run L E (w :: W) s = some r) : ∃ t, step1 L E w s = some t ∧ run L E W t = some r := by
  have h : (step1 L E w s).bind (run L E W) = some r := h
  cases hc : step1 L E w s with
  | none => rw [hc] at h; exact absurd h (by simp)
  | some t =>
    rw [hc] at h
    exact ⟨t, rfl, h⟩
theorem PD.push {g : Nat → Int} {x : Int} {s : List Int} {n : Nat} (h : PD 0 g s) (hn : n = s.length) : PD 0 (up g n x) (x :: s) := by
  subst hn
  refine ⟨by rw [Nat.zero_add, up_same], PD.cg s (fun i _ hi => up_ne _ _ (by omega)) h⟩
theorem K_value {w who spot held closed z : Int} {A : St} {E : Nat → Int} (h1 : E 1 = who) (h2 : E 2 = spot) (h3 : E 3 = held) (h4 : E 4 = closed) (hw : -5 ≤ w) (h : q_X8_value w who spot held closed A z) : z = vlE E w := by
  unfold vlE
  rcases (h.1 : tr_r_X8_value w who spot held closed A z) with ⟨c, hz⟩ | ⟨c, hz⟩ | ⟨c, hz⟩ | ⟨c, hz⟩ | ⟨c, hz⟩ | ⟨c, hz⟩
  · rw [if_neg (by omega), if_neg (by omega), if_neg (by omega), if_neg (by omega), if_neg (by omega)]; exact hz
  · rw [if_neg (by omega), if_neg (by omega), if_neg (by omega), if_neg (by omega), if_pos c]; exact hz
  · rw [if_neg (by omega), if_neg (by omega), if_neg (by omega), if_pos c, h4]; exact hz
  · rw [if_neg (by omega), if_neg (by omega), if_pos c, h3]; exact hz
  · rw [if_neg (by omega), if_pos c, h2]; exact hz
  · rw [if_pos c, h1]; exact hz
theorem K_holdsL {ta : Nat} {to who spot held closed z v : Int} {A0 u : St} {E : Nat → Int} (h1 : E 1 = who) (h2 : E 2 = spot) (h3 : E 3 = held) (h4 : E 4 = closed) (hv : V1 v) (hto : to ≤ A0 ta 2) : ∀ (nn : Nat) (W s : List Int) (k : Nat) (A : St), (∀ i, i < W.length → A (ta + 1) (k + i) = W.getD i 0) → (k : Int) + (W.length : Int) = to → PD 0 (A (ta + 2)) s → run 64 E W s = some [v] → d_X8_holds_1 ta to who spot held closed A0 z u nn (k : Int) (s.length : Int) A → z = v := by
  intro nn
  induction nn with
  | zero => intro W s k A _ _ _ _ h; exact h.elim
  | succ nn ih =>
    intro W s k A hW hk hP hr h
    obtain ⟨_, _, _, h⟩ := (h : tr_d_X8_holds_1 ta to who spot held closed A0 z u (fun z2 z3 A5 => d_X8_holds_1 ta to who spot held closed A0 z u nn z2 z3 A5) (k : Int) (s.length : Int) A)
    cases W with
    | nil =>
      have l0 : (([] : List Int).length : Int) = 0 := rfl
      have e : s = [v] := Option.some.inj hr
      rcases h with ⟨_, h⟩ | ⟨c, _⟩
      · subst e
        rcases (h : tr_d_X8_holds_3 ta (([v] : List Int).length : Int) A z u) with ⟨c, _⟩ | ⟨_, z46, e46, h⟩
        · exact absurd rfl c
        · have e46 : z46 = A (ta + 2) 0 := e46
          have p0 : A (ta + 2) 0 = v := hP.1
          rw [p0] at e46
          rcases h with ⟨c, hz, _⟩ | ⟨c, hz, _⟩
          · rcases hv with g | g <;> omega
          · omega
      · omega
    | cons w W =>
      have lw : ((w :: W).length : Int) = (W.length : Int) + 1 := rfl
      obtain ⟨t, st, rt⟩ := run_cons hr
      have w0 : A (ta + 1) k = w := hW 0 (Nat.succ_pos _)
      have hW2 : ∀ (B : St), B (ta + 1) = A (ta + 1) → ∀ i, i < W.length → B (ta + 1) (k + 1 + i) = W.getD i 0 := by
        intro B e i hi
        have g := hW (i + 1) (Nat.succ_lt_succ hi)
        rw [e, show k + 1 + i = k + (i + 1) by omega]
        exact g
      have next : ∀ (x : Int) (B : St) (n : Nat), x = (t.length : Int) → B = stA A (ta + 2) n (B (ta + 2) n) → PD 0 (B (ta + 2)) t → d_X8_holds_2 (fun z2 z3 A5 => d_X8_holds_1 ta to who spot held closed A0 z u nn z2 z3 A5) (k : Int) z u x B → z = v := by
        intro x B n hx eB pB h
        obtain ⟨_, _, h⟩ := (h : tr_d_X8_holds_2 _ (k : Int) z u x B)
        rw [hx] at h
        refine ih W t (k + 1) B (hW2 B ?_) (by omega) pB rt h
        rw [eB]
        exact stA_ne _ _ (by omega)
      have idx : ∀ (n : Nat) (y : Int), stA A (ta + 2) n y = stA A (ta + 2) n ((stA A (ta + 2) n y) (ta + 2) n) := by
        intro n y
        rw [stA_same, up_same]
      rcases h with ⟨c, _⟩ | ⟨_, h⟩
      · omega
      · rcases h with ⟨c, _⟩ | ⟨_, z19, e19, h⟩
        · omega
        · rw [Int.toNat_natCast, w0] at e19
          rcases step1_inv st with ⟨hw, hl, et⟩ | ⟨hw, x, r, es, vx, et⟩ | ⟨hw, b, a, r, es, ok, et⟩
          · rcases h with ⟨c, _⟩ | ⟨_, h⟩
            · omega
            · rcases h with ⟨_, z35, h35, A38, e38, h⟩ | ⟨c, _⟩
              · rw [e19] at h35
                have v35 := K_value h1 h2 h3 h4 hw h35
                rw [Int.toNat_natCast] at e38
                refine next _ A38 s.length ?_ (by rw [e38]; exact idx _ _) ?_ h
                · rw [et]; rfl
                · rw [e38, stA_same, et, ← v35]
                  exact PD.push hP rfl
              · omega
          · subst es
            have lr : ((x :: r).length : Int) = (r.length : Int) + 1 := rfl
            rcases h with ⟨_, h⟩ | ⟨c, _⟩
            · rcases h with ⟨c, hx⟩ | ⟨_, h⟩
              · clear hx
                omega
              · rcases h with ⟨_, z31, e31, z32, e32, A33, e33, h⟩ | ⟨c, _⟩
                · rw [show (((x :: r).length : Int) - 1).toNat = r.length by omega] at e31 e33
                  have px : A (ta + 2) r.length = x := by
                    have := hP.1
                    rw [Nat.zero_add] at this
                    exact this
                  rw [px] at e31
                  have e32 : z32 = 1 - x := by
                    rw [e32, e31]
                    rcases vx with rfl | rfl
                    · exact oWrap_id ⟨by decide, by decide⟩
                    · exact oWrap_id ⟨by decide, by decide⟩
                  refine next _ A33 r.length ?_ (by rw [e33]; exact idx _ _) ?_ h
                  · rw [et]; rfl
                  · rw [e33, stA_same, et, e32]
                    exact PD.push hP.2 rfl
                · omega
            · omega
          · subst es
            have lr : ((b :: a :: r).length : Int) = (r.length : Int) + 2 := by
              show ((r.length + 1 + 1 : Nat) : Int) = _
              omega
            rcases h with ⟨_, h⟩ | ⟨c, _⟩
            · rcases h with ⟨_, h⟩ | ⟨c, _⟩
              · rcases h with ⟨_, z24, e24, z25, e25, z26, h26, A29, e29, h⟩ | ⟨c, _⟩
                · rw [show (((b :: a :: r).length : Int) - 1).toNat = r.length + 1 by omega] at e25
                  rw [show (((b :: a :: r).length : Int) - 2).toNat = r.length by omega] at e24 e29
                  have pb : A (ta + 2) (r.length + 1) = b := by
                    have := hP.1
                    rw [Nat.zero_add] at this
                    exact this
                  have pa : A (ta + 2) r.length = a := by
                    have := hP.2.1
                    rw [Nat.zero_add] at this
                    exact this
                  rw [pa] at e24
                  rw [pb] at e25
                  rw [e19, e24, e25] at h26
                  have j := K_joined hw ok h26
                  refine next _ A29 r.length ?_ (by rw [e29]; exact idx _ _) ?_ h
                  · rw [et, lr]
                    show (r.length : Int) + 2 - 1 = ((r.length + 1 : Nat) : Int)
                    omega
                  · rw [e29, stA_same, et, j]
                    exact PD.push hP.2.2 rfl
                · omega
              · omega
            · omega
theorem M_worksL {b : Nat} {to z v : Int} {A0 u : St} {E : Nat → Int} (hE : ∀ i, R32 (E i)) (hb : A0 0 12 = (b : Int)) : ∀ (nn : Nat) (R s : List Int) (k : Nat) (A : St), (∀ i, i < R.length → ENC (A 33 (k + i)) (A 34 (k + i)) (R.getD i 0)) → (k : Int) + (R.length : Int) = 1600 * (b : Int) + to → PD 0 (A 42) s → (∀ i, 1 ≤ i → i ≤ 4 → A 43 i = E i) → run 64 E R s = some [v] → d_X12_works_1 to A0 z u nn (k : Int) (s.length : Int) A → z = v := by
  intro nn
  induction nn with
  | zero => intro R s k A _ _ _ _ _ h; exact h.elim
  | succ nn ih =>
    intro R s k A hR hk hP hM hr h
    obtain ⟨_, _, _, h⟩ := (h : tr_d_X12_works_1 to A0 z u (fun z1 z2 A4 => d_X12_works_1 to A0 z u nn z1 z2 A4) (k : Int) (s.length : Int) A)
    rw [hb] at h
    cases R with
    | nil =>
      have l0 : (([] : List Int).length : Int) = 0 := rfl
      have e : s = [v] := Option.some.inj hr
      rcases h with ⟨_, z17, e17, hz, _⟩ | ⟨c, _⟩
      · subst e
        have e17 : z17 = A 42 0 := e17
        have p0 : A 42 0 = v := hP.1
        rw [hz, e17, p0]
      · omega
    | cons w R =>
      have lw : ((w :: R).length : Int) = (R.length : Int) + 1 := rfl
      obtain ⟨t, st, rt⟩ := run_cons hr
      have w0 : ENC (A 33 k) (A 34 k) w := hR 0 (Nat.succ_pos _)
      have next : ∀ (x : Int) (B : St) (n : Nat) (y : Int), x = (t.length : Int) → B = stA A 42 n y → PD 0 (B 42) t → d_X12_works_1 to A0 z u nn ((k : Int) + 1) x B → z = v := by
        intro x B n y hx eB pB h
        rw [hx] at h
        refine ih R t (k + 1) B (fun i hi => ?_) (by omega) pB (fun i h1 h2 => ?_) rt h
        · have g := hR (i + 1) (Nat.succ_lt_succ hi)
          rw [eB, show k + 1 + i = k + (i + 1) by omega]
          exact g
        · rw [eB]
          exact hM i h1 h2
      rcases h with ⟨c, _⟩ | ⟨_, z18, e18, h⟩
      · omega
      · rw [Int.toNat_natCast] at e18
        have leaf : ∀ y : Int, y = vlE E w → t = vlE E w :: s → d_X12_works_2 (fun z1 z2 A4 => d_X12_works_1 to A0 z u nn z1 z2 A4) (k : Int) (s.length : Int) A z u y → z = v := by
          intro y hy et h
          obtain ⟨_, A40, e40, h⟩ := (h : tr_d_X12_works_2 _ (k : Int) (s.length : Int) A z u y)
          rw [Int.toNat_natCast] at e40
          refine next _ A40 s.length y ?_ e40 ?_ h
          · rw [et]; rfl
          · rw [e40, stA_same, et, hy]
            exact PD.push hP rfl
        rcases w0 with ⟨s0, ew, v0, v9⟩ | ⟨n0, ew, sr, sq⟩
        · rw [s0] at e18
          rcases step1_inv st with ⟨_, _, et⟩ | ⟨hw, _⟩ | ⟨hw, _⟩
          · rcases h with ⟨c, _⟩ | ⟨_, h⟩
            · omega
            · rcases h with ⟨c, _⟩ | ⟨_, z35, e35, z36, e36, h⟩
              · exact absurd e18 c
              · rw [Int.toNat_natCast, ← ew] at e35
                rw [e35, oI2l_id ⟨by omega, by omega⟩] at e36
                refine leaf _ ?_ et h
                rw [e36]
                unfold vlE
                rw [if_neg (by omega), if_neg (by omega), if_neg (by omega), if_neg (by omega), if_neg (by omega)]
          · omega
          · omega
        · obtain ⟨q, hq⟩ : ∃ q, A 33 k = q := ⟨_, rfl⟩
          rw [hq] at n0 ew sr sq e18
          by_cases q4 : q ≤ 4
          · have w4 : w = -q := by
              rw [ew]
              unfold sc
              rw [if_neg (by omega), if_neg (by omega), if_neg (by omega), if_neg (by omega), if_neg (by omega), if_neg (by omega), if_neg (by omega), if_pos (by omega)]
            rcases step1_inv st with ⟨_, _, et⟩ | ⟨hw, _⟩ | ⟨hw, _⟩
            · rcases h with ⟨c, _⟩ | ⟨_, h⟩
              · omega
              · rcases h with ⟨_, h⟩ | ⟨c, _⟩
                · rcases h with ⟨_, z33, e33, z34, e34, h⟩ | ⟨c, _⟩
                  · have e33 : z33 = E q.toNat := by
                      rw [e33, e18]
                      exact hM q.toNat (by omega) (by omega)
                    have ve : vlE E w = E q.toNat := by
                      rw [w4]
                      rcases (show q = 1 ∨ q = 2 ∨ q = 3 ∨ q = 4 by omega) with rfl | rfl | rfl | rfl <;> rfl
                    refine leaf _ ?_ et h
                    rw [e34, e33, ve]
                    exact oI2l_id (hE q.toNat)
                  · omega
                · omega
            · omega
            · omega
          · rcases sq with g | q9
            · exact absurd g q4
            · by_cases e9 : q = 9
              · have w5 : w = -5 := by rw [ew, e9]; rfl
                rcases step1_inv st with ⟨_, _, et⟩ | ⟨hw, _⟩ | ⟨hw, _⟩
                · rcases h with ⟨c, _⟩ | ⟨_, h⟩
                  · omega
                  · rcases h with ⟨_, h⟩ | ⟨c, _⟩
                    · rcases h with ⟨c, _⟩ | ⟨_, h⟩
                      · omega
                      · refine leaf _ ?_ et h
                        rw [w5]; rfl
                    · omega
                · omega
                · omega
              · rcases h with ⟨_, h⟩ | ⟨c, hx⟩
                · by_cases e22 : q = 22
                  · have w6 : w = -6 := by rw [ew, e22]; rfl
                    rcases h with ⟨c, _⟩ | ⟨_, z27, e27, z28, e28, A29, e29, h⟩
                    · omega
                    · rcases step1_inv st with ⟨hw, _⟩ | ⟨_, x, r, es, vx, et⟩ | ⟨hw, _⟩
                      · omega
                      · subst es
                        have lr : ((x :: r).length : Int) = (r.length : Int) + 1 := rfl
                        rw [show (((x :: r).length : Int) - 1).toNat = r.length by omega] at e27 e29
                        have px : A 42 r.length = x := by
                          have := hP.1
                          rw [Nat.zero_add] at this
                          exact this
                        rw [px] at e27
                        have e28 : z28 = 1 - x := by
                          rw [e28, e27]
                          rcases vx with rfl | rfl
                          · exact pSub_id ⟨by decide, by decide⟩
                          · exact pSub_id ⟨by decide, by decide⟩
                        refine next _ A29 r.length _ ?_ e29 ?_ h
                        · rw [et]; rfl
                        · rw [e29, stA_same, et, e28]
                          exact PD.push hP.2 rfl
                      · omega
                  · have wlt : sc q < -6 := by
                      unfold sc
                      rw [if_neg e22]
                      repeat' split
                      all_goals omega
                    rcases h with ⟨_, z21, e21, z22, e22', z23, h23, A26, e26, h⟩ | ⟨c, _⟩
                    · rcases step1_inv st with ⟨hw, _⟩ | ⟨hw, _⟩ | ⟨hw, b', a, r, es, ok, et⟩
                      · omega
                      · omega
                      · subst es
                        have lr : ((b' :: a :: r).length : Int) = (r.length : Int) + 2 := by
                          show ((r.length + 1 + 1 : Nat) : Int) = _
                          omega
                        rw [show (((b' :: a :: r).length : Int) - 1).toNat = r.length + 1 by omega] at e22'
                        rw [show (((b' :: a :: r).length : Int) - 2).toNat = r.length by omega] at e21 e26
                        have pb : A 42 (r.length + 1) = b' := by
                          have := hP.1
                          rw [Nat.zero_add] at this
                          exact this
                        have pa : A 42 r.length = a := by
                          have := hP.2.1
                          rw [Nat.zero_add] at this
                          exact this
                        rw [pa] at e21
                        rw [pb] at e22'
                        rw [e18, e21, e22'] at h23
                        rw [ew] at ok et
                        have j := M_made ⟨by omega, by omega⟩ ok h23
                        refine next _ A26 r.length _ ?_ e26 ?_ h
                        · rw [et, lr]
                          show (r.length : Int) + 2 - 1 = ((r.length + 1 : Nat) : Int)
                          omega
                        · rw [e26, stA_same, et, j]
                          exact PD.push hP.2.2 rfl
                    · omega
                · clear hx
                  omega
def env4 (p s h c : Int) : Nat → Int := fun i => if i = 1 then p else if i = 2 then s else if i = 3 then h else if i = 4 then c else 0
theorem barred_eq {t b : Nat} {B A u1 u2 : St} {d p s h c z1 z2 : Int} (hT : isT t) (cnt : A 29 b = B (t + 1) 7) (hb : A 0 12 = (b : Int)) (bars : ∀ k : Nat, (k : Int) < B (t + 1) 7 → A 30 (6 * b + k) = B (t + 16) k) (hc : MBc b A (tw t B)) (hE : (0 ≤ p ∧ p ≤ 1000) ∧ (0 ≤ s ∧ s ≤ 1000) ∧ (0 ≤ h ∧ h ≤ 1000) ∧ (0 ≤ c ∧ c ≤ 1000)) (h1 : q_X9_isBarred t d p s h c B z1 u1) (h2 : q_X12_isBarred d p s h c A z2 u2) : z1 = z2 := by
  have eb : EB (env4 p s h c) := by
    intro i
    unfold env4
    repeat' split
    all_goals omega
  have rE : ∀ i, R32 (env4 p s h c i) := fun i => by
    have := eb i
    exact ⟨by omega, by omega⟩
  obtain ⟨n1, h1⟩ := (h1.1 : tr_r_X9_isBarred t d p s h c B z1 u1)
  obtain ⟨A1, e1, n2, h2⟩ := (h2.1 : tr_r_X12_isBarred d p s h c A z2 u2)
  have sameT : ∀ B' : St, fk [72, 103] [] B B' → ∀ j, (j = 1 ∨ j = 16 ∨ j = 17 ∨ j = 18 ∨ j = 19 ∨ j = 20) → B' (t + j) = B (t + j) := by
    intro B' g j hj
    funext k
    refine g _ k ?_ rfl
    rcases hT with rfl | rfl
    · rcases hj with rfl | rfl | rfl | rfl | rfl | rfl <;> rfl
    · rcases hj with rfl | rfl | rfl | rfl | rfl | rfl <;> rfl
  have loop : ∀ (n1 n2 k : Nat) (B' A' : St), fk [72, 103] [] B B' → fr [42] [] A1 A' → d_X9_isBarred_1 t d p s h c z1 u1 n1 (k : Int) B' → d_X12_isBarred_1 d A z2 u2 n2 (6 * (b : Int) + (k : Int)) A' → z1 = z2 := by
    intro n1
    induction n1 with
    | zero => intro n2 k B' A' _ _ h _; exact h.elim
    | succ n1 ih =>
      intro n2 k B' A' gB gA h1 h2
      cases n2 with
      | zero => exact h2.elim
      | succ n2 =>
        obtain ⟨_, _, z12, e12, h1⟩ := (h1 : tr_d_X9_isBarred_1 t d p s h c z1 u1 (fun z1' A3 => d_X9_isBarred_1 t d p s h c z1 u1 n1 z1' A3) (k : Int) B')
        obtain ⟨_, _, z13, e13, h2⟩ := (h2 : tr_d_X12_isBarred_1 d A z2 u2 (fun z2' A4 => d_X12_isBarred_1 d A z2 u2 n2 z2' A4) (6 * (b : Int) + (k : Int)) A')
        have e12 : z12 = B' (t + 1) 7 := e12
        rw [sameT B' gB 1 (Or.inl rfl)] at e12
        have a1 : ∀ j, j ≠ 0 → j ≠ 42 → j ≠ 43 → A' j = A j := by
          intro j h0 h42 h43
          have x : ([42] : List Nat).contains j = false := by
            cases hc : ([42] : List Nat).contains j with
            | false => rfl
            | true =>
              have := List.contains_iff_mem.mp hc
              simp at this
              exact absurd this h42
          rw [gA.1 j h0 x, e1, stA_ne _ _ h43, stA_ne _ _ h43, stA_ne _ _ h43, stA_ne _ _ h43]
        rw [hb, Int.toNat_natCast, a1 29 (by decide) (by decide) (by decide), cnt] at e13
        rw [hb] at h2
        rcases h1 with ⟨c1, hz1, _⟩ | ⟨c1, z15, e15, h1⟩
        · rcases h2 with ⟨_, hz2, _⟩ | ⟨c2, _⟩
          · rw [hz1, hz2]
          · omega
        · rcases h2 with ⟨c2, _⟩ | ⟨_, z15', e15', h2⟩
          · omega
          · have hk : (k : Int) < B (t + 1) 7 := by omega
            rw [Int.toNat_natCast, sameT B' gB 16 (Or.inr (Or.inl rfl))] at e15
            rw [show (6 * (b : Int) + (k : Int)).toNat = 6 * b + k by omega, a1 30 (by decide) (by decide) (by decide), bars k hk] at e15'
            have on : ∀ (B2 A2 : St), fk [72, 103] [] B B2 → fr [42] [] A1 A2 → d_X9_isBarred_2 (fun z1' A3 => d_X9_isBarred_1 t d p s h c z1 u1 n1 z1' A3) (k : Int) z1 u1 B2 → d_X12_isBarred_2 (fun z2' A4 => d_X12_isBarred_1 d A z2 u2 n2 z2' A4) (6 * (b : Int) + (k : Int)) z2 u2 A2 → z1 = z2 := by
              intro B2 A2 g1 g2 h1 h2
              obtain ⟨_, h1⟩ := (h1 : tr_d_X9_isBarred_2 _ (k : Int) z1 u1 B2)
              obtain ⟨_, h2⟩ := (h2 : tr_d_X12_isBarred_2 _ (6 * (b : Int) + (k : Int)) z2 u2 A2)
              rw [show 6 * (b : Int) + (k : Int) + 1 = 6 * (b : Int) + ((k + 1 : Nat) : Int) by omega] at h2
              exact ih n2 (k + 1) B2 A2 g1 g2 h1 h2
            rcases h1 with ⟨c3, h1⟩ | ⟨c3, z19, e19, z21, e21, z22, A23, hh, h1⟩
            · rcases h2 with ⟨_, h2⟩ | ⟨c4, _⟩
              · exact on B' A' gB gA h1 h2
              · exact absurd (by rw [e15, ← e15']; exact c4) c3
            · rcases h2 with ⟨c4, _⟩ | ⟨_, z18, e18, z19', e19', z28, A29, hw, z32, ⟨_, c32, _⟩, h2⟩
              · exact absurd (by rw [e15', ← e15]; exact c3) c4
              · obtain ⟨C, R, y1, y2, y3, y4, y5, y6, y7, y8, y9⟩ := hc k hk
                obtain ⟨v, vb, vr⟩ := y9 (env4 p s h c) eb
                have vr := vr 64 [] (by show 0 + 30 ≤ 64; decide)
                rw [Int.toNat_natCast, sameT B' gB 17 (Or.inr (Or.inr (Or.inl rfl)))] at e19
                rw [Int.toNat_natCast, sameT B' gB 18 (Or.inr (Or.inr (Or.inr (Or.inl rfl))))] at e21
                have y1 : 0 ≤ B (t + 17) k := y1
                have y2 : B (t + 18) k = B (t + 17) k + (C.length : Int) := y2
                have y3 : B (t + 18) k ≤ B (t + 19) 2 := y3
                have y4 : ∀ i, i < C.length → B (t + 20) ((B (t + 17) k).toNat + i) = C.getD i 0 := y4
                have vz1 : z22 = v := by
                  obtain ⟨zf, ⟨f1, f2, f3⟩, nn, hl⟩ := (hh.1 : tr_r_X8_holds (t + 19) z19 z21 p s h c B' z22 A23)
                  have ef : zf = ((B (t + 17) k).toNat : Int) := by omega
                  rw [ef] at hl
                  refine K_holdsL (E := env4 p s h c) rfl rfl rfl rfl vb ?_ nn C [] _ B' (fun i hi => ?_) ?_ True.intro vr.1 hl
                  · rw [sameT B' gB 19 (Or.inr (Or.inr (Or.inr (Or.inr (Or.inl rfl)))))]
                    omega
                  · show B' (t + 20) _ = _
                    rw [sameT B' gB 20 (Or.inr (Or.inr (Or.inr (Or.inr (Or.inr rfl)))))]
                    exact y4 i hi
                  · omega
                rw [show (6 * (b : Int) + (k : Int)).toNat = 6 * b + k by omega, a1 31 (by decide) (by decide) (by decide)] at e18
                rw [show (6 * (b : Int) + (k : Int)).toNat = 6 * b + k by omega, a1 32 (by decide) (by decide) (by decide)] at e19'
                have b12 : A' 0 12 = (b : Int) := by
                  rw [gA.2 12 rfl, e1]
                  exact hb
                have vz2 : z28 = v := by
                  obtain ⟨nn, hl⟩ := (hw.1 : tr_r_X12_works z18 z19' A' z28 A29)
                  rw [b12] at hl
                  have ek : 1600 * (b : Int) + z18 = ((1600 * b + (A 31 (6 * b + k)).toNat : Nat) : Int) := by omega
                  rw [ek] at hl
                  refine M_worksL (E := env4 p s h c) rE b12 nn R [] _ A' (fun i hi => ?_) (by omega) True.intro (fun i i1 i4 => ?_) vr.2 hl
                  · rw [a1 33 (by decide) (by decide) (by decide), a1 34 (by decide) (by decide) (by decide)]
                    exact y8 i hi
                  · rw [gA.1 43 (by decide) rfl, e1]
                    rcases (show i = 1 ∨ i = 2 ∨ i = 3 ∨ i = 4 by omega) with rfl | rfl | rfl | rfl <;> rfl
                have g23 : fk [72, 103] [] B A23 := fk.trans gB hh.2.2.1 rfl rfl
                have g29 : fr [42] [] A1 A29 := fr.trans gA hw.2.2.1 rfl rfl
                rcases h1 with ⟨c5, h1⟩ | ⟨c5, hz1, _⟩
                · rcases h2 with ⟨_, h2⟩ | ⟨c6, _⟩
                  · exact on A23 A29 g23 g29 h1 h2
                  · rcases vb with g | g <;> omega
                · rcases h2 with ⟨c6, _⟩ | ⟨_, hz2, _⟩
                  · rcases vb with g | g <;> omega
                  · rw [hz1, hz2]
  have g1 : fr [42] [] A1 A1 := fr.rf
  rw [hb] at h2
  exact loop n1 n2 0 B A1 fk.rf g1 h1 (by rw [show 6 * (b : Int) + ((0 : Nat) : Int) = 6 * (b : Int) by omega]; exact h2)
/-! The codes of the reference's other bank are left alone. -/
def OC (b : Nat) (A u : St) : Prop := ∀ i, ¬ i / 1600 = b → u 33 i = A 33 i ∧ u 34 i = A 34 i
def C34 (A u : St) : Prop := u 33 = A 33 ∧ u 34 = A 34
theorem C34.rf {A : St} : C34 A A := ⟨rfl, rfl⟩
theorem C34.trans {A B C : St} (h : C34 A B) (g : C34 B C) : C34 A C := ⟨g.1.trans h.1, g.2.trans h.2⟩
theorem C34.fr {M' N' : List Nat} {A B : St} (h : fr M' N' A B) (hM : (M'.contains 33 || M'.contains 34) = false) : C34 A B := by
  rw [Bool.or_eq_false_iff] at hM
  exact ⟨h.1 33 (by decide) hM.1, h.1 34 (by decide) hM.2⟩
theorem C34.st {A B : St} {j i : Nat} {v : Int} (h : C34 A B) (h1 : 33 ≠ j) (h2 : 34 ≠ j) : C34 A (stA B j i v) := ⟨(stA_ne _ _ h1).trans h.1, (stA_ne _ _ h2).trans h.2⟩
theorem OC.rf {b : Nat} {A : St} : OC b A A := fun _ _ => ⟨rfl, rfl⟩
theorem OC.c {b : Nat} {A u : St} (h : C34 A u) : OC b A u := fun i _ => by rw [h.1, h.2]; exact ⟨rfl, rfl⟩
theorem OC.trans {b : Nat} {A B C : St} (h : OC b A B) (g : OC b B C) : OC b A C := fun i hi => ⟨(g i hi).1.trans (h i hi).1, (g i hi).2.trans (h i hi).2⟩
theorem add_oc {b : Nat} {s v : Int} {A u : St} (hb : A 0 47 = (b : Int)) (h0 : 0 ≤ A 0 46) (h : q_X12_add s v A u) : OC b A u := by
  have l : u 0 46 ≤ 1600 := (h.2.1 0 46).2
  obtain ⟨A1, e1, e2⟩ := (h.1 : tr_r_X12_add s v A u)
  rw [hb, show (1600 * (b : Int) + A 0 46).toNat = 1600 * b + (A 0 46).toNat by omega] at e1
  have u46 : u 0 46 = A 0 46 + 1 := by rw [e2, e1]; rfl
  intro i hi
  have ne : i ≠ 1600 * b + (A 0 46).toNat := by
    intro e
    apply hi
    rw [e]
    omega
  rw [e2, e1]
  exact ⟨up_ne _ _ ne, up_ne _ _ ne⟩
/-- the bank that is read, and that codes are counted -/
def BK (b : Nat) (A : St) : Prop := A 0 47 = (b : Int) ∧ 0 ≤ A 0 46
theorem BK.fr {b : Nat} {M' N' : List Nat} {A B : St} (h : BK b A) (hI : IM B) (g : fr M' N' A B) (hN : N'.contains 47 = false) : BK b B := ⟨(g.2 47 hN).trans h.1, (hI 0 46).1⟩
theorem BK.st {b : Nat} {A : St} {j i : Nat} {v : Int} (h : BK b A) (hj : 0 ≠ j ∨ (46 ≠ i ∧ 47 ≠ i)) : BK b (stA A j i v) := by
  unfold BK
  rcases hj with hj | ⟨h1, h2⟩
  · rw [stA_ne _ _ hj]; exact h
  · by_cases e : j = 0
    · subst e
      rw [stA_same, up_ne _ _ h1, up_ne _ _ h2]; exact h
    · rw [stA_ne _ _ (Ne.symm e)]; exact h
theorem joins_oc {b : Nat} {lo : Int} {A0 u : St} : ∀ (nn : Nat) (A : St), BK b A → d_X12_joins_1 lo A0 u nn A → OC b A u := by
  intro nn
  induction nn with
  | zero => intro A _ h; exact h.elim
  | succ nn ih =>
    intro A hb h
    obtain ⟨_, z10, _, h⟩ := (h : tr_d_X12_joins_1 lo A0 u (fun A2 => d_X12_joins_1 lo A0 u nn A2) A)
    rcases h with ⟨_, hu⟩ | ⟨_, z14, _, z15, _, h⟩
    · rw [hu]; exact OC.rf
    · rcases h with ⟨_, hu⟩ | ⟨_, z21, _, A22, e22, A23, ha, h⟩
      · rw [hu]; exact OC.rf
      · have b22 : BK b A22 := by rw [e22]; exact hb.st (Or.inr ⟨by decide, by decide⟩)
        have o1 : OC b A A22 := by rw [e22]; exact OC.c (C34.rf.st (by decide) (by decide))
        exact (o1.trans (add_oc b22.1 b22.2 ha)).trans (ih A23 (b22.fr ha.2.1 ha.2.2.1 rfl) h)
theorem q_joins_oc {b : Nat} {lo : Int} {A u : St} (hb : BK b A) (h : q_X12_joins lo A u) : OC b A u := by
  obtain ⟨nn, h⟩ := (h.1 : tr_r_X12_joins lo A u)
  exact joins_oc nn A hb h
theorem operand_oc {b : Nat} {A u : St} {z : Int} (hb : BK b A) (hq : q_X12_operand A z u) : OC b A u := by
  have d7 : ∀ (x : Int) (B : St), BK b B → d_X12_operand_7 x A z u B → OC b B u := by
    intro x B hB h
    obtain ⟨_, h⟩ := (h : tr_d_X12_operand_7 x A z u B)
    rcases h with ⟨_, A166, had, A170, ha, _, hu⟩ | ⟨_, _, hu⟩
    · rw [hu]
      exact (add_oc hB.1 hB.2 had).trans (OC.c (C34.fr ha.2.2.1 rfl))
    · rw [hu]; exact OC.rf
  have d6 : ∀ (x : Int) (B : St), BK b B → d_X12_operand_6 A B z u x → OC b B u := by
    intro x B hB h
    obtain ⟨_, h⟩ := (h : tr_d_X12_operand_6 A B z u x)
    rcases h with ⟨_, h⟩ | ⟨_, A158, hbl, h⟩
    · exact d7 x B hB h
    · exact (OC.c (C34.fr hbl.2.2.1 rfl)).trans (d7 x A158 (hB.fr hbl.2.1 hbl.2.2.1 rfl) h)
  have d10 : ∀ (x : Int) (B : St), d_X12_operand_10 x z u B → OC b B u := by
    intro x B h
    obtain ⟨_, A227, ho, h⟩ := (h : tr_d_X12_operand_10 x z u B)
    rcases h with ⟨_, _, hu⟩ | ⟨_, A231, e, _, hu⟩
    · rw [hu]; exact OC.c (C34.fr ho.2.2.1 rfl)
    · rw [hu, e]; exact OC.c ((C34.fr ho.2.2.1 rfl).st (by decide) (by decide))
  have d8 : ∀ B : St, d_X12_operand_8 B z u → OC b B u := by
    intro B h
    have d9 : ∀ x : Int, d_X12_operand_9 B z u x → OC b B u := by
      intro x h
      obtain ⟨_, A204, ha, z215, _, h⟩ := (h : tr_d_X12_operand_9 B z u x)
      have c1 : OC b B A204 := OC.c (C34.fr ha.2.2.1 rfl)
      rcases h with ⟨_, h⟩ | ⟨_, A220, hbl, h⟩
      · exact c1.trans (d10 x A204 h)
      · exact (c1.trans (OC.c (C34.fr hbl.2.2.1 rfl))).trans (d10 x A220 h)
    obtain ⟨z195, _, h⟩ := (h : tr_d_X12_operand_8 B z u)
    rcases h with ⟨_, h⟩ | ⟨_, h⟩
    · exact d9 _ h
    · exact d9 _ h
  have d5 : ∀ B : St, BK b B → d_X12_operand_5 A B z u → OC b B u := by
    intro B hB h
    obtain ⟨z120, _, h⟩ := (h : tr_d_X12_operand_5 A B z u)
    rcases h with ⟨_, z124, _, h⟩ | ⟨_, A253, ho, _, hu⟩
    · rcases h with ⟨_, h⟩ | ⟨_, z129, _, h⟩
      · exact d8 B h
      · rcases h with ⟨_, h⟩ | ⟨_, h⟩
        · rcases h with ⟨_, z135, _, h⟩ | ⟨_, h⟩
          · rcases h with ⟨_, z139, _, h⟩ | ⟨_, h⟩
            · rcases h with ⟨_, z143, _, h⟩ | ⟨_, h⟩
              · rcases h with ⟨_, z147, _, h⟩ | ⟨_, h⟩
                · rcases h with ⟨_, h⟩ | ⟨_, h⟩
                  · exact d6 _ B hB h
                  · exact d6 _ B hB h
                · exact d6 _ B hB h
              · exact d6 _ B hB h
            · exact d6 _ B hB h
          · exact d6 _ B hB h
        · exact d8 B h
    · rw [hu]; exact OC.c (C34.fr ho.2.2.1 rfl)
  have d3 : ∀ y : Int, d_X12_operand_3 y A z u → OC b A u := by
    intro y h
    obtain ⟨A49, e, h⟩ := (h : tr_d_X12_operand_3 y A z u)
    have b49 : BK b A49 := by rw [e]; exact hb.st (Or.inl (by decide))
    have c49 : OC b A A49 := by rw [e]; exact OC.c (C34.rf.st (by decide) (by decide))
    have d4 : d_X12_operand_4 y A A49 z u → OC b A49 u := by
      intro h
      rcases (h : tr_d_X12_operand_4 y A A49 z u) with ⟨_, h⟩ | ⟨_, z76, _, h⟩
      · exact d5 A49 b49 h
      · rcases h with ⟨_, h⟩ | ⟨_, A80, had, A84, e84, A85, ha, _, hu⟩
        · exact d5 A49 b49 h
        · rw [hu]
          have c84 : C34 A80 A84 := by rw [e84]; exact C34.rf.st (by decide) (by decide)
          exact (add_oc b49.1 b49.2 had).trans (OC.c (c84.trans (C34.fr ha.2.2.1 rfl)))
    rcases h with ⟨_, h⟩ | ⟨_, z59, _, h⟩
    · exact c49.trans (d4 h)
    · rcases h with ⟨_, h⟩ | ⟨_, A63, ho, _, hu⟩
      · exact c49.trans (d4 h)
      · rw [hu]; exact c49.trans (OC.c (C34.fr ho.2.2.1 rfl))
  have d2 : ∀ y : Int, d_X12_operand_2 A z u y → OC b A u := by
    intro y h
    obtain ⟨_, h⟩ := (h : tr_d_X12_operand_2 A z u y)
    rcases h with ⟨_, h⟩ | ⟨_, z18, _, h⟩
    · exact d3 y h
    · rcases h with ⟨_, h⟩ | ⟨_, A22, hh, A25, ha, _, hu⟩
      · exact d3 y h
      · rw [hu]; exact OC.c ((C34.fr hh.2.2.1 rfl).trans (C34.fr ha.2.2.1 rfl))
  obtain ⟨z1, _, z2, _, h⟩ := (hq.1 : tr_r_X12_operand A z u)
  rcases h with ⟨_, h⟩ | ⟨_, z8, _, h⟩
  · exact d2 0 h
  · rcases h with ⟨_, h⟩ | ⟨_, h⟩
    · exact d2 0 h
    · exact d2 1 h
theorem goesOn_oc {b : Nat} {A u : St} {z : Int} (hb : BK b A) (hq : q_X12_goesOn A z u) : OC b A u := by
  have jh : ∀ {B B1 B2 A' : St} {l x : Int}, q_X12_joins l A B → q_X12_holdsBack x B B1 → C34 B1 B2 → q_X12_ahead B2 A' → (∃ A49 : St, A49 = stA A' 0 57 0 ∧ (z = 1 ∧ u = A49)) → OC b A u := by
    intro B B1 B2 A' l x hj hh hc ha h
    obtain ⟨A49, e, _, hu⟩ := h
    rw [hu, e]
    exact (q_joins_oc hb hj).trans (OC.c ((((C34.fr hh.2.2.1 rfl).trans hc).trans (C34.fr ha.2.2.1 rfl)).st (by decide) (by decide)))
  have d1 : ∀ z1 z2 : Int, d_X12_goesOn_1 A z u z1 z2 → OC b A u := by
    intro z1 z2 h
    obtain ⟨z30, _, h⟩ := (h : tr_d_X12_goesOn_1 A z u z1 z2)
    rcases h with ⟨_, A34, hj, z39, _, A43, hh, A46, ha, h⟩ | ⟨_, z78, _, h⟩
    · exact jh hj hh C34.rf ha h
    · rcases h with ⟨_, A82, hj, z87, _, z91, _, z95, _, h⟩ | ⟨_, A208, hj, z213, _, z217, _, A221, hh, A224, ha, h⟩
      · rcases h with ⟨_, z99, _, h⟩ | ⟨_, A173, hh, A176, ha, h⟩
        · rcases h with ⟨_, A103, hh, A106, ha, h⟩ | ⟨_, A138, hh, A141, ha, h⟩
          · exact jh hj hh C34.rf ha h
          · exact jh hj hh C34.rf ha h
        · exact jh hj hh C34.rf ha h
      · exact jh hj hh C34.rf ha h
  have d10 : ∀ (k : Int) (B : St), BK b B → OC b A B → d_X12_goesOn_10 A z u k B → OC b A u := by
    intro k B hB o h
    obtain ⟨_, h⟩ := (h : tr_d_X12_goesOn_10 A z u k B)
    rcases h with ⟨_, A579, hj, A584, e, h⟩ | ⟨_, _, hu⟩
    · have o2 : OC b A A584 := by
        rw [e]
        exact (o.trans (q_joins_oc hB hj)).trans (OC.c ((C34.rf.st (by decide) (by decide)).st (by decide) (by decide)))
      have b2 : BK b A584 := by
        rw [e]
        exact ((hB.fr hj.2.1 hj.2.2.1 rfl).st (Or.inr ⟨by decide, by decide⟩)).st (Or.inr ⟨by decide, by decide⟩)
      rcases h with ⟨_, h⟩ | ⟨_, z657, _, A658, had, A663, ha, _, hu⟩
      · rcases h with ⟨_, A587, ha, _, hu⟩ | ⟨_, A616, e6, A617, ha, _, hu⟩
        · rw [hu]; exact o2.trans (OC.c (C34.fr ha.2.2.1 rfl))
        · rw [hu]
          have c6 : C34 A584 A616 := by rw [e6]; exact C34.rf.st (by decide) (by decide)
          exact o2.trans (OC.c (c6.trans (C34.fr ha.2.2.1 rfl)))
      · rw [hu]
        exact (o2.trans (add_oc b2.1 b2.2 had)).trans (OC.c (C34.fr ha.2.2.1 rfl))
    · rw [hu]; exact o
  have d11 : ∀ B : St, BK b B → OC b A B → d_X12_goesOn_11 A z u B → OC b A u := by
    intro B hB o h
    obtain ⟨_, h⟩ := (h : tr_d_X12_goesOn_11 A z u B)
    rcases h with ⟨_, A716, hj, A721, e, A722, ha, A725, e5, _, hu⟩ | ⟨_, _, hu⟩
    · rw [hu, e5]
      have c1 : C34 A716 A721 := by rw [e]; exact C34.rf.st (by decide) (by decide)
      exact (o.trans (q_joins_oc hB hj)).trans (OC.c ((c1.trans (C34.fr ha.2.2.1 rfl)).st (by decide) (by decide)))
    · rw [hu]; exact o
  have d8 : ∀ (k : Int) (B : St), BK b B → OC b A B → d_X12_goesOn_8 A z u k B → OC b A u := by
    intro k B hB o h
    have d9 : ∀ x : Int, d_X12_goesOn_9 k A B z u x → OC b A u := by
      intro x h
      obtain ⟨_, z567, _, h⟩ := (h : tr_d_X12_goesOn_9 k A B z u x)
      rcases h with ⟨_, h⟩ | ⟨_, A572, hbl, h⟩
      · exact d10 k B hB o h
      · exact d10 k A572 (hB.fr hbl.2.1 hbl.2.2.1 rfl) (o.trans (OC.c (C34.fr hbl.2.2.1 rfl))) h
    obtain ⟨_, h⟩ := (h : tr_d_X12_goesOn_8 A z u k B)
    rcases h with ⟨_, h⟩ | ⟨_, h⟩
    · rcases h with ⟨_, h⟩ | ⟨_, z703, _, h⟩
      · rcases h with ⟨_, h⟩ | ⟨_, h⟩
        · exact d9 _ h
        · exact d9 _ h
      · rcases h with ⟨_, h⟩ | ⟨_, A708, hbl, h⟩
        · exact d11 B hB o h
        · exact d11 A708 (hB.fr hbl.2.1 hbl.2.2.1 rfl) (o.trans (OC.c (C34.fr hbl.2.2.1 rfl))) h
    · rcases h with ⟨_, _, hu⟩ | ⟨_, A754, hj, _, hu⟩
      · rw [hu]; exact o
      · rw [hu]; exact o.trans (q_joins_oc hB hj)
  have d7 : ∀ k z2 : Int, d_X12_goesOn_7 A z u k z2 → OC b A u := by
    intro k z2 h
    rcases (h : tr_d_X12_goesOn_7 A z u k z2) with ⟨_, h⟩ | ⟨_, z552, _, h⟩
    · exact d8 k A hb OC.rf h
    · rcases h with ⟨_, h⟩ | ⟨_, A554, hbl, h⟩
      · exact d8 k A hb OC.rf h
      · exact d8 k A554 (hb.fr hbl.2.1 hbl.2.2.1 rfl) (OC.c (C34.fr hbl.2.2.1 rfl)) h
  have d6 : ∀ (k z2 : Int) (B : St), BK b B → OC b A B → d_X12_goesOn_6 A z u k z2 B → OC b A u := by
    intro k z2 B hB o h
    obtain ⟨_, h⟩ := (h : tr_d_X12_goesOn_6 A z u k z2 B)
    have fin : ∀ {C B1 B2 A' : St} {l x : Int}, q_X12_joins l B C → q_X12_holdsBack x C B1 → C34 B1 B2 → q_X12_ahead B2 A' → (∃ A49 : St, A49 = stA A' 0 57 0 ∧ (z = 1 ∧ u = A49)) → OC b A u := by
      intro C B1 B2 A' l x hj hh hc ha h
      obtain ⟨A49, e, _, hu⟩ := h
      rw [hu, e]
      exact (o.trans (q_joins_oc hB hj)).trans (OC.c ((((C34.fr hh.2.2.1 rfl).trans hc).trans (C34.fr ha.2.2.1 rfl)).st (by decide) (by decide)))
    rcases h with ⟨_, z445, _, h⟩ | ⟨_, _, hu⟩
    · rcases h with ⟨_, A449, hj, A455, hh, A458, e, A459, ha, h⟩ | ⟨_, A499, hj, A505, hh, A508, e, A509, ha, h⟩
      · exact fin hj hh (by rw [e]; exact (C34.rf.st (by decide) (by decide)).st (by decide) (by decide)) ha h
      · exact fin hj hh (by rw [e]; exact (C34.rf.st (by decide) (by decide)).st (by decide) (by decide)) ha h
    · rw [hu]; exact o
  have d5 : ∀ k z2 : Int, d_X12_goesOn_5 A z u k z2 → OC b A u := by
    intro k z2 h
    obtain ⟨z436, _, h⟩ := (h : tr_d_X12_goesOn_5 A z u k z2)
    rcases h with ⟨_, h⟩ | ⟨_, A439, hbl, h⟩
    · exact d6 k z2 A hb OC.rf h
    · exact d6 k z2 A439 (hb.fr hbl.2.1 hbl.2.2.1 rfl) (OC.c (C34.fr hbl.2.2.1 rfl)) h
  have d4 : ∀ k z2 : Int, d_X12_goesOn_4 A z u k z2 → OC b A u := by
    intro k z2 h
    rcases (h : tr_d_X12_goesOn_4 A z u k z2) with ⟨_, h⟩ | ⟨_, z426, _, h⟩
    · exact d7 k z2 h
    · rcases h with ⟨_, h⟩ | ⟨_, z431, _, h⟩
      · exact d5 k z2 h
      · rcases h with ⟨_, h⟩ | ⟨_, h⟩
        · exact d7 k z2 h
        · exact d5 k z2 h
  have d3 : ∀ k z2 : Int, d_X12_goesOn_3 A z u k z2 → OC b A u := by
    intro k z2 h
    obtain ⟨A275, hj, z280, _, h⟩ := (h : tr_d_X12_goesOn_3 A z u k z2)
    rcases h with ⟨_, z284, _, h⟩ | ⟨_, A378, hh, A381, e, A382, ha, h⟩
    · rcases h with ⟨_, A288, hh, A291, e, A292, ha, h⟩ | ⟨_, A333, hh, A336, e, A337, ha, h⟩
      · exact jh hj hh (by rw [e]; exact C34.rf.st (by decide) (by decide)) ha h
      · exact jh hj hh (by rw [e]; exact C34.rf.st (by decide) (by decide)) ha h
    · exact jh hj hh (by rw [e]; exact C34.rf.st (by decide) (by decide)) ha h
  have d2 : ∀ k z2 : Int, d_X12_goesOn_2 A z u k z2 → OC b A u := by
    intro k z2 h
    rcases (h : tr_d_X12_goesOn_2 A z u k z2) with ⟨_, h⟩ | ⟨_, z259, _, h⟩
    · exact d4 k z2 h
    · rcases h with ⟨_, h⟩ | ⟨_, z261, _, h⟩
      · exact d4 k z2 h
      · rcases h with ⟨_, h⟩ | ⟨_, z266, _, h⟩
        · exact d3 k z2 h
        · rcases h with ⟨_, h⟩ | ⟨_, z270, _, h⟩
          · exact d3 k z2 h
          · rcases h with ⟨_, h⟩ | ⟨_, h⟩
            · exact d4 k z2 h
            · exact d3 k z2 h
  obtain ⟨z1, _, z2, _, z5, _, h⟩ := (hq.1 : tr_r_X12_goesOn A z u)
  rcases h with ⟨_, h⟩ | ⟨_, z8, _, h⟩
  · exact d2 _ _ h
  · rcases h with ⟨_, h⟩ | ⟨_, z13, _, h⟩
    · exact d1 _ _ h
    · rcases h with ⟨_, h⟩ | ⟨_, z17, _, h⟩
      · exact d1 _ _ h
      · rcases h with ⟨_, h⟩ | ⟨_, z21, _, h⟩
        · exact d1 _ _ h
        · rcases h with ⟨_, h⟩ | ⟨_, z25, _, h⟩
          · exact d1 _ _ h
          · rcases h with ⟨_, h⟩ | ⟨_, h⟩
            · exact d2 _ _ h
            · exact d1 _ _ h
theorem reads_oc {b : Nat} {A u : St} (hb : BK b A) (hq : q_X12_reads 1 A u) : OC b A u := by
  have loop : ∀ (nn : Nat) (x : Int) (B : St), BK b B → d_X12_reads_2 u nn x B → OC b B u := by
    intro nn
    induction nn with
    | zero => intro x B _ h; exact h.elim
    | succ nn ih =>
      intro x B hB h
      obtain ⟨_, _, h⟩ := (h : tr_d_X12_reads_2 u (fun z12 A14 => d_X12_reads_2 u nn z12 A14) x B)
      rcases h with ⟨_, hu⟩ | ⟨_, h⟩
      · rw [hu]; exact OC.rf
      · rcases h with ⟨_, z24, A25, hg, h⟩ | ⟨_, z31, A32, ho, A36, e, h⟩
        · have o1 := goesOn_oc hB hg
          have b1 := hB.fr hg.2.1 hg.2.2.1 rfl
          rcases h with ⟨_, h⟩ | ⟨_, h⟩
          · exact o1.trans (ih _ A25 b1 h)
          · rcases h with ⟨_, h⟩ | ⟨_, h⟩
            · exact o1.trans (ih _ A25 b1 h)
            · exact o1.trans (ih _ A25 b1 h)
        · have o1 : OC b B A36 := by
            rw [e]
            exact (operand_oc hB ho).trans (OC.c (C34.rf.st (by decide) (by decide)))
          have b1 : BK b A36 := by
            rw [e]
            exact (hB.fr ho.2.1 ho.2.2.1 rfl).st (Or.inr ⟨by decide, by decide⟩)
          rcases h with ⟨_, h⟩ | ⟨_, h⟩
          · exact o1.trans (ih _ A36 b1 h)
          · exact o1.trans (ih _ A36 b1 h)
  rcases (hq.1 : tr_r_X12_reads 1 A u) with ⟨_, A2, e2, h2⟩ | ⟨_, hu⟩
  · rcases h2 with ⟨c, _⟩ | ⟨_, h2⟩
    · exact absurd c (by decide)
    · obtain ⟨_, A9, hpu, nn, h2⟩ := (h2 : tr_d_X12_reads_1 A2 u 1)
      have b2 : BK b A2 := by
        rw [e2]
        exact (((hb.st (Or.inr ⟨by decide, by decide⟩)).st (Or.inr ⟨by decide, by decide⟩)).st (Or.inr ⟨by decide, by decide⟩)).st (Or.inr ⟨by decide, by decide⟩)
      have o2 : OC b A A2 := by
        rw [e2]
        exact OC.c ((((C34.rf.st (by decide) (by decide)).st (by decide) (by decide)).st (by decide) (by decide)).st (by decide) (by decide))
      exact (o2.trans (OC.c (C34.fr hpu.2.2.1 rfl))).trans (loop nn 1 A9 (b2.fr hpu.2.1 hpu.2.2.1 rfl) h2)
  · rw [hu]; exact OC.rf
theorem barring_oc {b : Nat} {A u : St} (hb : BK b A) (hq : q_X12_barring A u) : OC b A u := by
  have d5 : ∀ (x : Int) (B : St), d_X12_barring_5 x A u B → OC b B u := by
    intro x B h
    obtain ⟨_, A80, e, h⟩ := (h : tr_d_X12_barring_5 x A u B)
    have o : C34 B A80 := by rw [e]; exact C34.rf.st (by decide) (by decide)
    rcases h with ⟨_, hu⟩ | ⟨_, z97, _, A98, e8, hu⟩
    · rw [hu]; exact OC.c o
    · rw [hu, e8]; exact OC.c (o.st (by decide) (by decide))
  have d4 : ∀ (x : Int) (B : St), BK b B → d_X12_barring_4 x A u B → OC b B u := by
    intro x B hB h
    obtain ⟨_, z41, A42, hk, A46, e46, A47, hwd, A51, e51, h⟩ := (h : tr_d_X12_barring_4 x A u B)
    have o : C34 B A51 := by
      rw [e51]
      have c46 : C34 A42 A46 := by rw [e46]; exact C34.rf.st (by decide) (by decide)
      exact (((C34.fr hk.2.2.1 rfl).trans c46).trans (C34.fr hwd.2.2.1 rfl)).st (by decide) (by decide)
    have b51 : BK b A51 := by
      rw [e51]
      have b46 : BK b A46 := by rw [e46]; exact (hB.fr hk.2.1 hk.2.2.1 rfl).st (Or.inl (by decide))
      exact (b46.fr hwd.2.1 hwd.2.2.1 rfl).st (Or.inl (by decide))
    rcases h with ⟨_, h⟩ | ⟨_, A71, hre, h⟩
    · exact (OC.c o).trans (d5 x A51 h)
    · exact ((OC.c o).trans (reads_oc b51 hre)).trans (d5 x A71 h)
  have d3 : ∀ (x y : Int) (B : St), BK b B → d_X12_barring_3 x A B u y → OC b B u := by
    intro x y B hB h
    obtain ⟨_, h⟩ := (h : tr_d_X12_barring_3 x A B u y)
    rcases h with ⟨_, h⟩ | ⟨_, z33, _, h⟩
    · exact d4 x B hB h
    · rcases h with ⟨_, h⟩ | ⟨_, A35, hbl, h⟩
      · exact d4 x B hB h
      · exact (OC.c (C34.fr hbl.2.2.1 rfl)).trans (d4 x A35 (hB.fr hbl.2.1 hbl.2.2.1 rfl) h)
  have d1 : ∀ x : Int, d_X12_barring_1 A u x → OC b A u := by
    intro x h
    obtain ⟨_, z9, A10, hc, h⟩ := (h : tr_d_X12_barring_1 A u x)
    have o := OC.c (b := b) (C34.fr hc.2.2.1 rfl)
    have b10 := hb.fr hc.2.1 hc.2.2.1 rfl
    rcases h with ⟨_, z15, _, h⟩ | ⟨_, hu⟩
    · rcases h with ⟨_, h⟩ | ⟨_, h⟩
      · exact o.trans (d3 _ _ A10 b10 (h : tr_d_X12_barring_2 z15 A A10 u))
      · rcases h with ⟨_, h⟩ | ⟨_, z20, _, h⟩
        · exact o.trans (d3 _ _ A10 b10 (h : tr_d_X12_barring_2 z15 A A10 u))
        · rcases h with ⟨_, h⟩ | ⟨_, z24, _, h⟩
          · exact o.trans (d3 _ _ A10 b10 (h : tr_d_X12_barring_2 z15 A A10 u))
          · exact o.trans (d3 _ _ A10 b10 h)
    · rw [hu]; exact o
  obtain ⟨z1, _, h⟩ := (hq.1 : tr_r_X12_barring A u)
  rcases h with ⟨_, h⟩ | ⟨_, h⟩
  · exact d1 0 h
  · exact d1 1 h
theorem statement_oc {b : Nat} {A u : St} (hb : BK b A) (hq : q_X12_statement A u) : OC b A u := by
  have d1 : ∀ B : St, d_X12_statement_1 u B → OC b B u := by
    intro B h
    obtain ⟨_, h⟩ := (h : tr_d_X12_statement_1 u B)
    rcases h with ⟨_, e⟩ | ⟨_, A62, hm, e⟩
    · rw [e]; exact OC.rf
    · rw [e]; exact OC.c (C34.fr hm.2.2.1 rfl)
  have oth : ∀ B : St, q_X12_others A B → OC b A B := by
    intro B hq
    obtain ⟨z0, _, h⟩ := (hq.1 : tr_r_X12_others A B)
    rcases h with ⟨_, z1, _, h⟩ | ⟨_, C, hs, e⟩
    · rcases h with ⟨_, z2, _, h⟩ | ⟨_, C, hs, e⟩
      · rcases h with ⟨_, z3, _, h⟩ | ⟨_, C, hs, e⟩
        · rcases h with ⟨_, z4, _, h⟩ | ⟨_, C, hs, e⟩
          · rcases h with ⟨_, z5, _, h⟩ | ⟨_, C, hs, e⟩
            · rcases h with ⟨_, C, hs, e⟩ | ⟨_, C, hs, e⟩
              · rw [e]; exact OC.c (C34.fr hs.2.2.1 rfl)
              · rw [e]; exact barring_oc hb hs
            · rw [e]; exact OC.c (C34.fr hs.2.2.1 rfl)
          · rw [e]; exact OC.c (C34.fr hs.2.2.1 rfl)
        · rw [e]; exact OC.c (C34.fr hs.2.2.1 rfl)
      · rw [e]; exact OC.c (C34.fr hs.2.2.1 rfl)
    · rw [e]; exact OC.c (C34.fr hs.2.2.1 rfl)
  obtain ⟨z0, _, h⟩ := (hq.1 : tr_r_X12_statement A u)
  rcases h with ⟨_, z1, _, h⟩ | ⟨_, C, hs, h⟩
  · rcases h with ⟨_, z2, _, h⟩ | ⟨_, C, hs, h⟩
    · rcases h with ⟨_, z3, _, h⟩ | ⟨_, C, hs, h⟩
      · rcases h with ⟨_, z4, _, h⟩ | ⟨_, C, hs, h⟩
        · rcases h with ⟨_, z5, _, h⟩ | ⟨_, C, hs, h⟩
          · rcases h with ⟨_, C, hs, h⟩ | ⟨_, C, hs, h⟩
            · exact (oth C hs).trans (d1 C h)
            · exact (OC.c (C34.fr hs.2.2.1 rfl)).trans (d1 C h)
          · exact (OC.c (C34.fr hs.2.2.1 rfl)).trans (d1 C h)
        · exact (OC.c (C34.fr hs.2.2.1 rfl)).trans (d1 C h)
      · exact (OC.c (C34.fr hs.2.2.1 rfl)).trans (d1 C h)
    · exact (OC.c (C34.fr hs.2.2.1 rfl)).trans (d1 C h)
  · exact (OC.c (C34.fr hs.2.2.1 rfl)).trans (d1 C h)
theorem town_oc {b : Nat} {A u : St} {z : Int} (hb : -(A 0 12) + 1 = (b : Int)) (hq : q_X12_town A z u) : OC b A u := by
  have t2 : ∀ (i : Int) (B : St), d_X12_town_2 i A B z u → OC b B u := by
    intro i B h
    rcases (h : tr_d_X12_town_2 i A B z u) with ⟨_, A27, e, _, hu⟩ | ⟨_, A28, e, z29, A30, hr, _, hu⟩
    · rw [hu, e]
      exact OC.c ((((C34.rf.st (by decide) (by decide)).st (by decide) (by decide)).st (by decide) (by decide)).st (by decide) (by decide))
    · rw [hu]
      have c28 : C34 B A28 := by rw [e]; exact (C34.rf.st (by decide) (by decide)).st (by decide) (by decide)
      exact OC.c (c28.trans (C34.fr hr.2.2.1 rfl))
  have loop : ∀ (nn : Nat) (i : Int) (B : St), BK b B → d_X12_town_1 A z u nn i B → OC b B u := by
    intro nn
    induction nn with
    | zero => intro i B _ h; exact h.elim
    | succ nn ih =>
      intro i B hB h
      obtain ⟨_, _, h⟩ := (h : tr_d_X12_town_1 A z u (fun z5 A7 => d_X12_town_1 A z u nn z5 A7) i B)
      rcases h with ⟨_, h⟩ | ⟨_, h⟩
      · exact t2 i B h
      · rcases h with ⟨_, h⟩ | ⟨_, A19, hst, z24, _, h⟩
        · exact t2 i B h
        · exact (statement_oc hB hst).trans (ih _ A19 (hB.fr hst.2.1 hst.2.2.1 rfl) h)
  obtain ⟨A1, e1, A2, ha, nn, hq⟩ := (hq.1 : tr_r_X12_town A z u)
  have f33 : A1 33 = A 33 := by rw [e1]; rfl
  have f34 : A1 34 = A 34 := by rw [e1]; rfl
  have b1 : BK b A1 := by
    rw [e1]
    exact ⟨hb, (Int.le_refl 0 : (0 : Int) ≤ 0)⟩
  exact ((OC.c (⟨f33, f34⟩ : C34 A A1)).trans (OC.c (C34.fr ha.2.2.1 rfl))).trans (loop nn 0 A2 (b1.fr ha.2.1 ha.2.2.1 rfl) hq)
/-! A town that was read is sound: its numbers are of things that are there. -/
theorem ask_b {f : Nat → Int} {N k p : Nat} {T : St} {a : Int × Nat} (h : sAsk f N T k p = some a) : 0 ≤ a.1 ∧ a.1 < T 1 k := by
  unfold sAsk at h
  cases hn : sName f N p with
  | none => rw [hn] at h; exact absurd h (by simp)
  | some w =>
    rw [hn] at h
    have h : (if sFind T k w.1 = -1 then none else some (sFind T k w.1, w.2)) = some a := h
    by_cases c : sFind T k w.1 = -1
    · rw [if_pos c] at h; exact absurd h (by simp)
    · rw [if_neg c] at h
      have h := Option.some.inj h
      rw [← h]
      exact (sFind_b T k w.1).resolve_left c
def TW (T : St) (w : Int) : Prop := (10 ≤ w ∧ w < 10 + T 1 0) ∨ (20 ≤ w ∧ w < 20 + T 1 1 ∧ T 10 (w - 20).toNat = 0)
def WV (T : St) (w : Int) : Prop := (0 ≤ w ∧ w < T 1 3) ∨ TW T w ∨ w = 40
theorem spot_b {f : Nat → Int} {N p : Nat} {T : St} {a : Int × Nat} (h : sSpot f N T p = some a) : TW T a.1 := by
  unfold sSpot at h
  cases hn : sName f N p with
  | none => rw [hn] at h; exact absurd h (by simp)
  | some w =>
    rw [hn] at h
    have h : (if sFind T 0 w.1 ≠ -1 then some (sFind T 0 w.1 + 10, w.2) else if sFind T 1 w.1 ≠ -1 ∧ T 10 (sFind T 1 w.1).toNat = 0 then some (sFind T 1 w.1 + 20, w.2) else none) = some a := h
    by_cases c : sFind T 0 w.1 ≠ -1
    · rw [if_pos c] at h
      have h := Option.some.inj h
      rw [← h]
      have := (sFind_b T 0 w.1).resolve_left c
      exact Or.inl ⟨by show 10 ≤ sFind T 0 w.1 + 10; omega, by show sFind T 0 w.1 + 10 < 10 + T 1 0; omega⟩
    · rw [if_neg c] at h
      by_cases c2 : sFind T 1 w.1 ≠ -1 ∧ T 10 (sFind T 1 w.1).toNat = 0
      · rw [if_pos c2] at h
        have h := Option.some.inj h
        rw [← h]
        have := (sFind_b T 1 w.1).resolve_left c2.1
        refine Or.inr ⟨by show 20 ≤ sFind T 1 w.1 + 20; omega, by show sFind T 1 w.1 + 20 < 20 + T 1 1; omega, ?_⟩
        show T 10 (sFind T 1 w.1 + 20 - 20).toNat = 0
        rw [show sFind T 1 w.1 + 20 - 20 = sFind T 1 w.1 by omega]
        exact c2.2
      · rw [if_neg c2] at h; exact absurd h (by simp)
theorem num_b {f : Nat → Int} {N p : Nat} {lo hi : Int} {a : Int × Nat} (h : sNum f N lo hi p = some a) : lo ≤ a.1 ∧ a.1 ≤ hi := by
  unfold sNum at h
  by_cases c : tKind f N p = 2 ∧ lo ≤ nv f N p ∧ nv f N p ≤ hi
  · rw [if_pos c] at h
    have h := Option.some.inj h
    rw [← h]
    exact c.2
  · rw [if_neg c] at h; exact absurd h (by simp)
def DV (T : St) (k : Nat) : Prop := (0 ≤ T 8 k ∧ T 8 k < T 1 0) ∧ (0 ≤ T 9 k ∧ T 9 k < T 1 0) ∧ 0 ≤ T 10 k ∧ (T 10 k = 0 → T 8 k = T 9 k)
def KV (T : St) (k : Nat) : Prop := (0 ≤ T 25 k ∧ T 25 k ≤ 6) ∧ (∀ i : Nat, (i : Int) < T 25 k → 0 ≤ T (27 + k) i ∧ T (27 + k) i < T 1 1) ∧ (∀ i j : Nat, i < j → (j : Int) < T 25 k → T (27 + k) i ≠ T (27 + k) j) ∧ WV T (T 24 k)
def VT (T : St) : Prop := (0 ≤ T 1 0 ∧ 0 ≤ T 1 1 ∧ 0 ≤ T 1 2 ∧ 0 ≤ T 1 3 ∧ 0 ≤ T 1 4) ∧ (∀ k : Nat, (k : Int) < T 1 1 → DV T k) ∧ (∀ k : Nat, (k : Int) < T 1 3 → 0 ≤ T 23 k ∧ T 23 k < T 1 0) ∧ (∀ k : Nat, (k : Int) < T 1 2 → KV T k) ∧ (∀ k : Nat, k < 4 → T 1 2 ≤ (k : Int) → T 25 k = 0) ∧ ∀ k : Nat, (k : Int) < T 1 4 → TW T (T 11 k)
/-- the counts don't fall, doors stay as they are -/
def GR (T T' : St) : Prop := (T 1 0 ≤ T' 1 0 ∧ T 1 1 ≤ T' 1 1 ∧ T 1 2 ≤ T' 1 2 ∧ T 1 3 ≤ T' 1 3 ∧ T 1 4 ≤ T' 1 4) ∧ ∀ k : Nat, (k : Int) < T 1 1 → T' 8 k = T 8 k ∧ T' 9 k = T 9 k ∧ T' 10 k = T 10 k
theorem TW.gr {T T' : St} {w : Int} (h : TW T w) (g : GR T T') : TW T' w := by
  obtain ⟨⟨g0, g1, _⟩, gd⟩ := g
  rcases h with ⟨h1, h2⟩ | ⟨h1, h2, h3⟩
  · exact Or.inl ⟨h1, by omega⟩
  · exact Or.inr ⟨h1, by omega, by rw [(gd (w - 20).toNat (by omega)).2.2]; exact h3⟩
theorem WV.gr {T T' : St} {w : Int} (h : WV T w) (g : GR T T') : WV T' w := by
  rcases h with h | h | h
  · exact Or.inl ⟨h.1, by have := g.1.2.2.2.1; omega⟩
  · exact Or.inr (Or.inl (h.gr g))
  · exact Or.inr (Or.inr h)
theorem DV.gr {T T' : St} {k : Nat} (h : DV T k) (hk : (k : Int) < T 1 1) (g : GR T T') : DV T' k := by
  obtain ⟨a, b, c, d⟩ := h
  have x := g.2 k hk
  have := g.1.1
  unfold DV
  rw [x.1, x.2.1, x.2.2]
  exact ⟨⟨a.1, by omega⟩, ⟨b.1, by omega⟩, c, d⟩
theorem KV.gr {T T' : St} {k : Nat} (h : KV T k) (g : GR T T') (h24 : T' 24 k = T 24 k) (h25 : T' 25 k = T 25 k) (h27 : T' (27 + k) = T (27 + k)) : KV T' k := by
  obtain ⟨a, b, c, d⟩ := h
  have := g.1.2.1
  unfold KV
  rw [h24, h25, h27]
  exact ⟨a, fun i hi => ⟨(b i hi).1, by have := (b i hi).2; omega⟩, c, d.gr g⟩
theorem VT.step {T T' : St} (h : VT T) (g : GR T T') (nD : ∀ k : Nat, T 1 1 ≤ (k : Int) → (k : Int) < T' 1 1 → DV T' k) (r23 : ∀ k : Nat, (k : Int) < T 1 3 → T' 23 k = T 23 k) (nP : ∀ k : Nat, T 1 3 ≤ (k : Int) → (k : Int) < T' 1 3 → 0 ≤ T' 23 k ∧ T' 23 k < T' 1 0) (rK : ∀ k : Nat, (k : Int) < T 1 2 → KV T' k) (nK : ∀ k : Nat, T 1 2 ≤ (k : Int) → (k : Int) < T' 1 2 → KV T' k) (nz : ∀ k : Nat, k < 4 → T' 1 2 ≤ (k : Int) → T' 25 k = 0) (r11 : ∀ k : Nat, (k : Int) < T 1 4 → T' 11 k = T 11 k) (nT : ∀ k : Nat, T 1 4 ≤ (k : Int) → (k : Int) < T' 1 4 → TW T' (T' 11 k)) : VT T' := by
  obtain ⟨⟨c0, c1, c2, c3, c4⟩, hD, hP, hK, hz, hT⟩ := h
  have g0 := g.1.1
  have g1 := g.1.2.1
  have g2 := g.1.2.2.1
  have g3 := g.1.2.2.2.1
  have g4 := g.1.2.2.2.2
  refine ⟨⟨by omega, by omega, by omega, by omega, by omega⟩, fun k hk => ?_, fun k hk => ?_, fun k hk => ?_, nz, fun k hk => ?_⟩
  · by_cases c : (k : Int) < T 1 1
    · exact (hD k c).gr c g
    · exact nD k (by omega) hk
  · by_cases c : (k : Int) < T 1 3
    · rw [r23 k c]
      have := hP k c
      exact ⟨this.1, by omega⟩
    · exact nP k (by omega) hk
  · by_cases c : (k : Int) < T 1 2
    · exact rK k c
    · exact nK k (by omega) hk
  · by_cases c : (k : Int) < T 1 4
    · rw [r11 k c]
      exact (hT k c).gr g
    · exact nT k (by omega) hk
/-- nothing that counts here is touched -/
theorem VT.cg {T T' : St} (h : VT T) (e : ∀ j, j = 8 ∨ j = 9 ∨ j = 10 ∨ j = 11 ∨ j = 23 ∨ j = 24 ∨ j = 25 → T' j = T j) (e27 : ∀ k, T' (27 + k) = T (27 + k)) (e1 : ∀ k, k < 5 → T' 1 k = T 1 k) : VT T' := by
  have g : GR T T' := by
    refine ⟨⟨by rw [e1 0 (by decide)]; exact Int.le_refl _, by rw [e1 1 (by decide)]; exact Int.le_refl _, by rw [e1 2 (by decide)]; exact Int.le_refl _, by rw [e1 3 (by decide)]; exact Int.le_refl _, by rw [e1 4 (by decide)]; exact Int.le_refl _⟩, fun k _ => ?_⟩
    rw [e 8 (by omega), e 9 (by omega), e 10 (by omega)]
    exact ⟨rfl, rfl, rfl⟩
  have d := e1 1 (by decide)
  have p := e1 3 (by decide)
  have q := e1 2 (by decide)
  have t := e1 4 (by decide)
  refine h.step g (fun k h1 h2 => by omega) (fun k _ => by rw [e 23 (by omega)]) (fun k h1 h2 => by omega) (fun k hk => (h.2.2.2.1 k hk).gr g (by rw [e 24 (by omega)]) (by rw [e 25 (by omega)]) (e27 k)) (fun k h1 h2 => by omega) (fun k hk h2 => ?_) (fun k _ => by rw [e 11 (by omega)]) (fun k h1 h2 => by omega)
  rw [e 25 (by omega)]
  exact h.2.2.2.2.1 k hk (by omega)
def VB (r : Option (St × Nat)) : Prop := ∀ a, r = some a → VT a.1
theorem VB.no : VB none := fun a h => absurd h (by simp)
theorem VB.so {t : St} {e : Nat} (h : VT t) : VB (some (t, e)) := fun a g => by rw [← Option.some.inj g]; exact h
theorem VB.bd {α : Type} {r : Option α} {k : α → Option (St × Nat)} (hk : ∀ a, r = some a → VB (k a)) : VB (r.bind k) := by
  cases r with
  | none => exact VB.no
  | some a => exact hk a rfl
theorem VB.if {r r' : Option (St × Nat)} {c : Prop} [Decidable c] (h : c → VB r) (g : ¬ c → VB r') : VB (if c then r else r') := by
  by_cases d : c
  · rw [if_pos d]; exact h d
  · rw [if_neg d]; exact g d
theorem GR.rf {T : St} : GR T T := ⟨⟨Int.le_refl _, Int.le_refl _, Int.le_refl _, Int.le_refl _, Int.le_refl _⟩, fun _ _ => ⟨rfl, rfl, rfl⟩⟩
theorem VT_place {T : St} {w : Int} (h : VT T) : VT (sAdd T 0 w) := by
  have e1 : ∀ k, k ≠ 0 → sAdd T 0 w 1 k = T 1 k := fun k hk => up_ne _ _ hk
  have e0 : sAdd T 0 w 1 0 = T 1 0 + 1 := by
    show up (T 1) 0 (T 1 0 + 1) 0 = T 1 0 + 1
    exact up_same _ _ _
  have d := e1 1 (by decide)
  have q := e1 2 (by decide)
  have p := e1 3 (by decide)
  have t := e1 4 (by decide)
  have g : GR T (sAdd T 0 w) := ⟨⟨by omega, by omega, by omega, by omega, by omega⟩, fun k _ => ⟨rfl, rfl, rfl⟩⟩
  refine h.step g (fun k h1 h2 => by omega) (fun k _ => rfl) (fun k h1 h2 => by omega) (fun k hk => (h.2.2.2.1 k hk).gr g rfl rfl ?_) (fun k h1 h2 => by omega) (fun k hk h2 => h.2.2.2.2.1 k hk (by omega)) (fun k _ => rfl) (fun k h1 h2 => by omega)
  show stA (stA T 3 _ w) 1 _ _ (27 + k) = T (27 + k)
  rw [stA_ne _ _ (by omega), stA_ne _ _ (by omega)]
theorem VT_door {T : St} {w a c m : Int} (h : VT T) (ha : 0 ≤ a ∧ a < T 1 0) (hc : 0 ≤ c ∧ c < T 1 0) (hm : 0 ≤ m) (hz : m = 0 → a = c) : VT (sDoorAdd T w a c m) := by
  have e1 : ∀ k, k ≠ 1 → sDoorAdd T w a c m 1 k = T 1 k := fun k hk => up_ne _ _ hk
  have e0 : sDoorAdd T w a c m 1 1 = T 1 1 + 1 := by
    show up (T 1) 1 (T 1 1 + 1) 1 = T 1 1 + 1
    exact up_same _ _ _
  have d := e1 0 (by decide)
  have q := e1 2 (by decide)
  have p := e1 3 (by decide)
  have t := e1 4 (by decide)
  have n0 := h.1.2.1
  have g : GR T (sDoorAdd T w a c m) := by
    refine ⟨⟨by omega, by omega, by omega, by omega, by omega⟩, fun k hk => ?_⟩
    have ne : k ≠ (T 1 1).toNat := by omega
    exact ⟨up_ne _ _ ne, up_ne _ _ ne, up_ne _ _ ne⟩
  refine h.step g (fun k h1 h2 => ?_) (fun k _ => rfl) (fun k h1 h2 => by omega) (fun k hk => (h.2.2.2.1 k hk).gr g rfl rfl ?_) (fun k h1 h2 => by omega) (fun k hk h2 => h.2.2.2.2.1 k hk (by omega)) (fun k _ => rfl) (fun k h1 h2 => by omega)
  · have ek : k = (T 1 1).toNat := by omega
    have x8 : sDoorAdd T w a c m 8 k = a := by rw [ek]; exact up_same _ _ _
    have x9 : sDoorAdd T w a c m 9 k = c := by rw [ek]; exact up_same _ _ _
    have x10 : sDoorAdd T w a c m 10 k = m := by rw [ek]; exact up_same _ _ _
    unfold DV
    rw [x8, x9, x10, d]
    exact ⟨ha, hc, hm, hz⟩
  · show stA (stA (stA (stA (stA T 4 _ w) 1 _ _) 8 _ _) 9 _ _) 10 _ _ (27 + k) = T (27 + k)
    rw [stA_ne _ _ (by omega), stA_ne _ _ (by omega), stA_ne _ _ (by omega), stA_ne _ _ (by omega), stA_ne _ _ (by omega)]
theorem VT_key {T : St} {w a : Int} (h : VT T) (ha : TW T a) (hn : T 1 2 < 4) : VT (sKeyAdd T w a) := by
  have e1 : ∀ k, k ≠ 2 → sKeyAdd T w a 1 k = T 1 k := fun k hk => up_ne _ _ hk
  have e0 : sKeyAdd T w a 1 2 = T 1 2 + 1 := by
    show up (T 1) 2 (T 1 2 + 1) 2 = T 1 2 + 1
    exact up_same _ _ _
  have d := e1 0 (by decide)
  have q := e1 1 (by decide)
  have p := e1 3 (by decide)
  have t := e1 4 (by decide)
  have n0 := h.1.2.2.1
  have g : GR T (sKeyAdd T w a) := ⟨⟨by omega, by omega, by omega, by omega, by omega⟩, fun k _ => ⟨rfl, rfl, rfl⟩⟩
  have e27 : ∀ k, sKeyAdd T w a (27 + k) = T (27 + k) := by
    intro k
    show stA (stA (stA T 5 _ w) 1 _ _) 24 _ _ (27 + k) = T (27 + k)
    rw [stA_ne _ _ (by omega), stA_ne _ _ (by omega), stA_ne _ _ (by omega)]
  refine h.step g (fun k h1 h2 => by omega) (fun k _ => rfl) (fun k h1 h2 => by omega) (fun k hk => (h.2.2.2.1 k hk).gr g ?_ rfl (e27 k)) (fun k h1 h2 => ?_) (fun k hk h2 => h.2.2.2.2.1 k hk (by omega)) (fun k _ => rfl) (fun k h1 h2 => by omega)
  · exact up_ne _ _ (by omega)
  · have ek : k = (T 1 2).toNat := by omega
    have z : T 25 k = 0 := h.2.2.2.2.1 k (by omega) (by omega)
    have x24 : sKeyAdd T w a 24 k = a := by rw [ek]; exact up_same _ _ _
    have x25 : sKeyAdd T w a 25 k = 0 := z
    unfold KV
    rw [x24, x25]
    exact ⟨⟨by decide, by decide⟩, fun i hi => by omega, fun i j _ hj => by omega, Or.inr (Or.inl (ha.gr g))⟩
theorem VT_person {T : St} {w a : Int} (h : VT T) (ha : 0 ≤ a ∧ a < T 1 0) : VT (sPersonAdd T w a) := by
  have e1 : ∀ k, k ≠ 3 → sPersonAdd T w a 1 k = T 1 k := fun k hk => up_ne _ _ hk
  have e0 : sPersonAdd T w a 1 3 = T 1 3 + 1 := by
    show up (T 1) 3 (T 1 3 + 1) 3 = T 1 3 + 1
    exact up_same _ _ _
  have d := e1 0 (by decide)
  have q := e1 1 (by decide)
  have p := e1 2 (by decide)
  have t := e1 4 (by decide)
  have n0 := h.1.2.2.2.1
  have g : GR T (sPersonAdd T w a) := ⟨⟨by omega, by omega, by omega, by omega, by omega⟩, fun k _ => ⟨rfl, rfl, rfl⟩⟩
  refine h.step g (fun k h1 h2 => by omega) (fun k hk => up_ne _ _ (by omega)) (fun k h1 h2 => ?_) (fun k hk => (h.2.2.2.1 k hk).gr g rfl rfl ?_) (fun k h1 h2 => by omega) (fun k hk h2 => h.2.2.2.2.1 k hk (by omega)) (fun k _ => rfl) (fun k h1 h2 => by omega)
  · have ek : k = (T 1 3).toNat := by omega
    have x : sPersonAdd T w a 23 k = a := by rw [ek]; exact up_same _ _ _
    rw [x, d]
    exact ha
  · show stA (stA (stA T 6 _ w) 1 _ _) 23 _ _ (27 + k) = T (27 + k)
    rw [stA_ne _ _ (by omega), stA_ne _ _ (by omega), stA_ne _ _ (by omega)]
theorem VT_thing {T : St} {w a : Int} (h : VT T) (ha : TW T a) : VT (sThingAdd T w a) := by
  have e1 : ∀ k, k ≠ 4 → sThingAdd T w a 1 k = T 1 k := fun k hk => up_ne _ _ hk
  have e0 : sThingAdd T w a 1 4 = T 1 4 + 1 := by
    show up (T 1) 4 (T 1 4 + 1) 4 = T 1 4 + 1
    exact up_same _ _ _
  have d := e1 0 (by decide)
  have q := e1 1 (by decide)
  have p := e1 2 (by decide)
  have t := e1 3 (by decide)
  have n0 := h.1.2.2.2.2
  have g : GR T (sThingAdd T w a) := ⟨⟨by omega, by omega, by omega, by omega, by omega⟩, fun k _ => ⟨rfl, rfl, rfl⟩⟩
  refine h.step g (fun k h1 h2 => by omega) (fun k _ => rfl) (fun k h1 h2 => by omega) (fun k hk => (h.2.2.2.1 k hk).gr g rfl rfl ?_) (fun k h1 h2 => by omega) (fun k hk h2 => h.2.2.2.2.1 k hk (by omega)) (fun k hk => up_ne _ _ (by omega)) (fun k h1 h2 => ?_)
  · show stA (stA (stA T 7 _ w) 1 _ _) 11 _ _ (27 + k) = T (27 + k)
    rw [stA_ne _ _ (by omega), stA_ne _ _ (by omega), stA_ne _ _ (by omega)]
  · have ek : k = (T 1 4).toNat := by omega
    have x : sThingAdd T w a 11 k = a := by rw [ek]; exact up_same _ _ _
    rw [x]
    exact ha.gr g
/-- a key goes elsewhere -/
theorem VT_where {T : St} {q : Nat} {a : Int} (h : VT T) (ha : WV T a) : VT (stA T 24 q a) := by
  have g : GR T (stA T 24 q a) := GR.rf
  refine h.step g (fun k h1 h2 => absurd h2 (Int.not_lt.mpr h1)) (fun k _ => rfl) (fun k h1 h2 => absurd h2 (Int.not_lt.mpr h1)) (fun k hk => ?_) (fun k h1 h2 => absurd h2 (Int.not_lt.mpr h1)) (fun k hk h2 => h.2.2.2.2.1 k hk h2) (fun k _ => rfl) (fun k h1 h2 => absurd h2 (Int.not_lt.mpr h1))
  obtain ⟨x1, x2, x3, x4⟩ := h.2.2.2.1 k hk
  have e27 : stA T 24 q a (27 + k) = T (27 + k) := stA_ne _ _ (by omega)
  unfold KV
  rw [e27]
  refine ⟨x1, x2, x3, ?_⟩
  show WV (stA T 24 q a) (up (T 24) q a k)
  by_cases e : k = q
  · rw [e, up_same]; exact ha
  · rw [up_ne _ _ e]; exact x4
/-- a row grows -/
theorem VT_push {T : St} {q n : Nat} {d : Int} (h : VT T) (hq : (q : Int) < T 1 2) (hn : T 25 q = (n : Int)) (h6 : n < 6) (hd : 0 ≤ d ∧ d < T 1 1) (hu : ∀ i : Nat, i < n → T (27 + q) i ≠ d) : VT (stA (stA T (27 + q) n d) 25 q ((n : Int) + 1)) := by
  obtain ⟨T', eT⟩ : ∃ T', T' = stA (stA T (27 + q) n d) 25 q ((n : Int) + 1) := ⟨_, rfl⟩
  rw [← eT]
  have low : ∀ j, j < 25 → T' j = T j := by
    intro j hj
    rw [eT, stA_ne _ _ (by omega), stA_ne _ _ (by omega)]
  have g : GR T T' := by
    refine ⟨⟨?_, ?_, ?_, ?_, ?_⟩, fun k _ => ?_⟩
    · rw [low 1 (by decide)]; exact Int.le_refl _
    · rw [low 1 (by decide)]; exact Int.le_refl _
    · rw [low 1 (by decide)]; exact Int.le_refl _
    · rw [low 1 (by decide)]; exact Int.le_refl _
    · rw [low 1 (by decide)]; exact Int.le_refl _
    · rw [low 8 (by decide), low 9 (by decide), low 10 (by decide)]; exact ⟨rfl, rfl, rfl⟩
  have c1 : T' 1 = T 1 := low 1 (by decide)
  have t25 : ∀ k, k ≠ q → T' 25 k = T 25 k := by
    intro k hk
    rw [eT]
    show up (stA T (27 + q) n d 25) q ((n : Int) + 1) k = T 25 k
    rw [up_ne _ _ hk, stA_ne _ _ (by omega)]
  have t25q : T' 25 q = (n : Int) + 1 := by
    rw [eT]
    show up (stA T (27 + q) n d 25) q ((n : Int) + 1) q = _
    rw [up_same]
  have t27 : ∀ k, k ≠ q → T' (27 + k) = T (27 + k) := by
    intro k hk
    rw [eT, stA_ne _ _ (by omega), stA_ne _ _ (by omega)]
  have t27q : T' (27 + q) = up (T (27 + q)) n d := by
    rw [eT, stA_ne _ _ (by omega), stA_same]
  refine h.step g (fun k h1 h2 => by rw [c1] at h2; omega) (fun k _ => by rw [low 23 (by decide)]) (fun k h1 h2 => by rw [c1] at h2; omega) (fun k hk => ?_) (fun k h1 h2 => by rw [c1] at h2; omega) (fun k hk h2 => ?_) (fun k _ => by rw [low 11 (by decide)]) (fun k h1 h2 => by rw [c1] at h2; omega)
  · by_cases e : k = q
    · subst e
      obtain ⟨x1, x2, x3, x4⟩ := h.2.2.2.1 k hk
      unfold KV
      rw [t25q, t27q, low 24 (by decide)]
      refine ⟨⟨by omega, by omega⟩, fun i hi => ?_, fun i j hij hj => ?_, x4.gr g⟩
      · rw [c1]
        by_cases e2 : i = n
        · rw [e2, up_same]; exact hd
        · rw [up_ne _ _ e2]
          exact x2 i (by omega)
      · by_cases e2 : j = n
        · rw [e2, up_same, up_ne _ _ (by omega)]
          exact hu i (by omega)
        · rw [up_ne _ _ (by omega), up_ne _ _ e2]
          exact x3 i j hij (by omega)
    · exact (h.2.2.2.1 k hk).gr g (by rw [low 24 (by decide)]) (t25 k e) (t27 k e)
  · rw [c1] at h2
    have : k ≠ q := by omega
    rw [t25 k this]
    exact h.2.2.2.2.1 k hk h2
theorem fnd_no {g : Nat → Int} {w : Int} : ∀ (n i : Nat), fnd g w n i = -1 → ∀ k, i ≤ k → k < i + n → g k ≠ w := by
  intro n
  induction n with
  | zero => intro i _ k h1 h2; omega
  | succ n ih =>
    intro i h k h1 h2
    have h : (if g i = w then (i : Int) else fnd g w n (i + 1)) = -1 := h
    by_cases c : g i = w
    · rw [if_pos c] at h; omega
    · rw [if_neg c] at h
      by_cases e : k = i
      · rw [e]; exact c
      · exact ih (i + 1) h k (by omega) (by omega)
theorem VB_push {T : St} {key door : Int} {e : Nat} (h : VT T) (hk : 0 ≤ key ∧ key < T 1 2) (hd : 0 ≤ door ∧ door < T 1 1) : VB ((sPush T key door).bind fun t => some (t, e)) := by
  unfold sPush
  by_cases c : fnd (T (27 + key.toNat)) door (T 25 key.toNat).toNat 0 = -1 ∧ T 25 key.toNat < 6
  · rw [if_pos c]
    refine VB.so ?_
    have kv := (h.2.2.2.1 key.toNat (by omega)).1
    obtain ⟨n, hn⟩ : ∃ n : Nat, T 25 key.toNat = (n : Int) := ⟨(T 25 key.toNat).toNat, by omega⟩
    have c1 := c.1
    rw [hn, Int.toNat_natCast] at c1 ⊢
    exact VT_push h (by omega) hn (by omega) hd (fun i hi => fnd_no n 0 c1 i (Nat.zero_le i) (by omega))
  · rw [if_neg c]; exact VB.no
theorem VB_stmt {f : Nat → Int} {N p : Nat} {T : St} (h : VT T) : VB (sStmt f N T p) := by
  unfold sStmt
  refine VB.if (fun _ => VB.no) (fun _ => ?_)
  refine VB.if (fun _ => VB.if (fun _ => ?_) (fun _ => VB.no)) (fun _ => VB.if (fun _ => VB.if (fun _ => ?_) (fun _ => VB.no)) (fun _ => VB.if (fun _ => VB.if (fun _ => ?_) (fun _ => VB.no)) (fun _ => VB.if (fun _ => VB.if (fun l4 => ?_) (fun _ => VB.no)) (fun _ => VB.if (fun _ => VB.if (fun _ => ?_) (fun _ => VB.no)) (fun _ => VB.if (fun _ => VB.if (fun _ => ?_) (fun _ => VB.no)) (fun _ => VB.if (fun _ => VB.if (fun _ => ?_) (fun _ => VB.no)) (fun _ => VB.if (fun _ => VB.if (fun _ => ?_) (fun _ => VB.no)) (fun _ => VB.if (fun _ => VB.if (fun _ => ?_) (fun _ => VB.no)) (fun _ => VB.if (fun _ => ?_) (fun _ => VB.if (fun _ => ?_) (fun _ => VB.if (fun _ => ?_) (fun _ => VB.no))))))))))))
  · exact VB.bd (fun a _ => VB.so (VT_place h))
  · refine VB.bd (fun a _ => VB.bd (fun b hb => VB.bd (fun c hc => VB.if (fun _ => VB.no) (fun ne => VB.bd (fun d hd => VB.so ?_)))))
    have := num_b hd
    exact VT_door h (ask_b hb) (ask_b hc) (by omega) (fun g => by omega)
  · exact VB.bd (fun a _ => VB.bd (fun b _ => VB.bd (fun c hc => VB.so (VT_door h (ask_b hc) (ask_b hc) (Int.le_refl 0) (fun _ => rfl)))))
  · exact VB.bd (fun a _ => VB.bd (fun b _ => VB.bd (fun c hc => VB.so (VT_key h (spot_b hc) l4))))
  · exact VB.bd (fun a _ => VB.bd (fun b _ => VB.bd (fun c hc => VB.so (VT_person h (ask_b hc)))))
  · exact VB.bd (fun a _ => VB.bd (fun b _ => VB.bd (fun c hc => VB.so (VT_thing h (spot_b hc)))))
  · refine VB.bd (fun a _ => VB.if (fun _ => VB.bd (fun b _ => VB.if (fun _ => VB.so ?_) (fun _ => VB.no))) (fun _ => VB.no))
    refine h.cg (fun j hj => ?_) (fun k => ?_) (fun k hk => ?_)
    · rw [stA_ne _ _ (by omega), stA_ne _ _ (by omega)]
    · rw [stA_ne _ _ (by omega), stA_ne _ _ (by omega)]
    · show up (T 1) 5 _ k = T 1 k
      exact up_ne _ _ (by omega)
  · refine VB.bd (fun a _ => VB.bd (fun b _ => VB.bd (fun c _ => VB.so ?_)))
    refine h.cg (fun j hj => ?_) (fun k => ?_) (fun k hk => ?_)
    · show stA (stA (stA (stA T 13 _ _) 14 _ _) 15 _ _) 1 _ _ j = T j
      rw [stA_ne _ _ (by omega), stA_ne _ _ (by omega), stA_ne _ _ (by omega), stA_ne _ _ (by omega)]
    · show stA (stA (stA (stA T 13 _ _) 14 _ _) 15 _ _) 1 _ _ (27 + k) = T (27 + k)
      rw [stA_ne _ _ (by omega), stA_ne _ _ (by omega), stA_ne _ _ (by omega), stA_ne _ _ (by omega)]
    · show up (T 1) 6 _ k = T 1 k
      exact up_ne _ _ (by omega)
  · refine VB.bd (fun a _ => VB.if (fun _ => VB.no) (fun _ => VB.bd (fun e _ => VB.bd (fun b hb => VB.so ?_))))
    have kp := KS_testN (f := f) (N := N) 8 T e b hb
    refine h.cg (fun j hj => ?_) (fun k => ?_) (fun k hk => ?_)
    · show stA (stA (stA (stA b.1 16 _ _) 17 _ _) 18 _ _) 1 _ _ j = T j
      rw [stA_ne _ _ (by omega), stA_ne _ _ (by omega), stA_ne _ _ (by omega), stA_ne _ _ (by omega)]
      exact kp j (by omega) (by omega)
    · show stA (stA (stA (stA b.1 16 _ _) 17 _ _) 18 _ _) 1 _ _ (27 + k) = T (27 + k)
      rw [stA_ne _ _ (by omega), stA_ne _ _ (by omega), stA_ne _ _ (by omega), stA_ne _ _ (by omega)]
      exact kp (27 + k) (by omega) (by omega)
    · show up (b.1 1) 7 _ k = T 1 k
      rw [up_ne _ _ (by omega), kp 1 (by decide) (by decide)]
  · refine VB.bd (fun a ha => VB.bd (fun b hb => VB.if (fun _ => VB.so ?_) (fun _ => VB.no)))
    exact VT_where h (Or.inl (ask_b ha))
  · exact VB.bd (fun a ha => VB.bd (fun b _ => VB.bd (fun c hc => VB_push h (ask_b hc) (ask_b ha))))
  · refine VB.bd (fun a _ => VB.if (fun _ => VB.so ?_) (fun _ => VB.no))
    refine h.cg (fun j hj => ?_) (fun k => ?_) (fun k hk => ?_)
    · exact stA_ne _ _ (by omega)
    · exact stA_ne _ _ (by omega)
    · rfl
theorem VT_townL {f : Nat → Int} {N : Nat} : ∀ (k n : Nat) (T : St) (p : Nat) (a : Nat × St), VT T → sTownL f N k n T p = some a → VT a.2 := by
  intro k
  induction k with
  | zero => intro n T p a _ h; exact absurd h (by simp [sTownL])
  | succ k ih =>
    intro n T p a hT h
    by_cases c : tKind f N p = 0
    · have e : sTownL f N (k + 1) n T p = some (n, T) := by
        show (if tKind f N p = 0 then some (n, T) else _) = _
        rw [if_pos c]
      rw [e] at h
      rw [← Option.some.inj h]
      exact hT
    · rw [sTownL_st c] at h
      cases hs : sSt f N T p with
      | none => rw [hs] at h; exact absurd h (by simp)
      | some b =>
        rw [hs] at h
        refine ih (n + 1) b.1 b.2 a ?_ h
        unfold sSt at hs
        cases hc : sStmt f N T p with
        | none => rw [hc] at hs; exact absurd hs (by simp)
        | some b' =>
          rw [hc] at hs
          have hs : ((sSign f N 59 b'.2).bind fun e => some (b'.1, e)) = some b := hs
          cases hd : sSign f N 59 b'.2 with
          | none => rw [hd] at hs; exact absurd hs (by simp)
          | some e =>
            rw [hd] at hs
            have hs := Option.some.inj hs
            rw [← hs]
            exact VB_stmt hT b' hc
theorem VT_0 {T : St} : VT (sClear T) := by
  have z : ∀ k, k < 5 → sClear T 1 k = 0 := by
    intro k hk
    rcases (show k = 0 ∨ k = 1 ∨ k = 2 ∨ k = 3 ∨ k = 4 by omega) with rfl | rfl | rfl | rfl | rfl <;> rfl
  have z0 := z 0 (by decide)
  have z1 := z 1 (by decide)
  have z2 := z 2 (by decide)
  have z3 := z 3 (by decide)
  have z4 := z 4 (by decide)
  refine ⟨⟨by omega, by omega, by omega, by omega, by omega⟩, fun k hk => by omega, fun k hk => by omega, fun k hk => by omega, fun k hk _ => ?_, fun k hk => by omega⟩
  rcases (show k = 0 ∨ k = 1 ∨ k = 2 ∨ k = 3 by omega) with rfl | rfl | rfl | rfl <;> rfl
theorem VT_town {f : Nat → Int} {N : Nat} {T : St} {a : Nat × St} (h : sTown f N T = some a) : VT a.2 := VT_townL 1601 0 (sClear T) 0 a VT_0 h
/-! What is shut, dead, held and how many: both sides against the town. -/
def inR (T : St) (k d : Nat) : Prop := ∃ i : Nat, (i : Int) < T 25 k ∧ T (27 + k) i = (d : Int)
def shT (T : St) (d : Nat) : Prop := (T 0 15).toNat.testBit d = true ∨ ∃ k : Nat, (k : Int) < T 1 2 ∧ inR T k d
def RB (T : St) : Prop := ∀ k : Nat, k < 4 → (0 ≤ T 25 k ∧ T 25 k ≤ 6) ∧ ∀ i : Nat, (i : Int) < T 25 k → 0 ≤ T (27 + k) i ∧ T (27 + k) i < 10
theorem VT.rb {T : St} (h : VT T) (h10 : T 1 1 ≤ 10) : RB T := by
  intro k hk
  by_cases c : (k : Int) < T 1 2
  · have v := h.2.2.2.1 k c
    exact ⟨v.1, fun i hi => by have := v.2.1 i hi; omega⟩
  · have z := h.2.2.2.2.1 k hk (by omega)
    rw [z]
    exact ⟨⟨by decide, by decide⟩, fun i hi => absurd hi (by omega)⟩
theorem or_10 {x y : Int} (hx : 0 ≤ x ∧ x < 1024) (hy : 0 ≤ y ∧ y < 1024) : 0 ≤ oOr x y ∧ oOr x y < 1024 ∧ ∀ d, (oOr x y).toNat.testBit d = (x.toNat.testBit d || y.toNat.testBit d) := by
  have p10 : (2 : Nat) ^ 10 = 1024 := by decide
  have l1 : x.toNat < 2 ^ 10 := by omega
  have l2 : y.toNat < 2 ^ 10 := by omega
  have l3 := Nat.or_lt_two_pow l1 l2
  have ex : x = ((x.toNat : Nat) : Int) := by omega
  have ey : y = ((y.toNat : Nat) : Int) := by omega
  have e : oOr x y = ((x.toNat ||| y.toNat : Nat) : Int) := by
    have := oOr_nat (a := x.toNat) (b := y.toNat) (by omega) (by omega)
    rw [← ex, ← ey] at this
    exact this
  rw [e]
  refine ⟨by omega, by omega, fun d => ?_⟩
  rw [Int.toNat_natCast, Nat.testBit_or]
/-- the class's rows -/
theorem K_inRow {t k j : Nat} {B : St} {z : Int} (hk : k < 4) (h : q_X6_inRow (t + 22) (k : Int) (j : Int) B z) : ((j : Int) < B (t + 25) k ∧ z = B (t + (27 + k)) j) ∨ (B (t + 25) k ≤ (j : Int) ∧ z = -1) := by
  rcases (h.1 : tr_r_X6_inRow (t + 22) (k : Int) (j : Int) B z) with ⟨c, _⟩ | ⟨_, h⟩
  · omega
  rcases h with ⟨c, _⟩ | ⟨_, h⟩
  · omega
  rcases h with ⟨c, _⟩ | ⟨_, z4, e4, h⟩
  · omega
  rw [Int.toNat_natCast] at e4
  have e4 : z4 = B (t + 25) k := e4
  rcases h with ⟨c, hz⟩ | ⟨c, z7, e7, hz⟩
  · exact Or.inr ⟨by omega, hz⟩
  · rw [Int.toNat_natCast, Int.toNat_natCast, show t + 22 + 5 + k = t + (27 + k) by omega] at e7
    exact Or.inl ⟨by omega, by rw [hz, e7]⟩
theorem K_rowMaskL {t k : Nat} {B : St} {z : Int} (hk : k < 4) (hR : RB (tw t B)) : ∀ (nn i : Nat) (m : Int), (0 ≤ m ∧ m < 1024) → (∀ d, d < 10 → (m.toNat.testBit d = true ↔ ∃ i', i' < i ∧ (i' : Int) < B (t + 25) k ∧ B (t + (27 + k)) i' = (d : Int))) → d_X6_rowMask_1 (t + 22) (k : Int) B z nn (i : Int) m → (0 ≤ z ∧ z < 1024) ∧ ∀ d, d < 10 → (z.toNat.testBit d = true ↔ inR (tw t B) k d) := by
  have r6 : B (t + 25) k ≤ 6 := (hR k hk).1.2
  intro nn
  induction nn with
  | zero => intro i m _ _ h; exact h.elim
  | succ nn ih =>
    intro i m hm hb h
    obtain ⟨_, _, h⟩ := (h : tr_d_X6_rowMask_1 (t + 22) (k : Int) B z (fun z1 z2 => d_X6_rowMask_1 (t + 22) (k : Int) B z nn z1 z2) (i : Int) m)
    rcases h with ⟨c, hz⟩ | ⟨c, z10, h10, h⟩
    · rw [hz]
      refine ⟨hm, fun d hd => (hb d hd).trans ⟨fun ⟨i', _, h2, h3⟩ => ⟨i', h2, h3⟩, fun ⟨i', h2, h3⟩ => ⟨i', ?_, h2, h3⟩⟩⟩
      have h2 : (i' : Int) < B (t + 25) k := h2
      omega
    · rcases K_inRow hk h10 with ⟨g1, g2⟩ | ⟨g1, g2⟩
      · have rb : 0 ≤ B (t + (27 + k)) i ∧ B (t + (27 + k)) i < 10 := (hR k hk).2 i g1
        rcases h with ⟨e, _⟩ | ⟨_, z15, e15, z16, e16, h⟩
        · omega
        · obtain ⟨_, h⟩ := (h : tr_d_X6_rowMask_2 _ (i : Int) z z16)
          have ed : z10 = ((z10.toNat : Nat) : Int) := by omega
          rw [e15, ed] at e16
          obtain ⟨o1, o2, o3⟩ := or_bit (x := m) (d := z10.toNat) hm (by omega)
          rw [← e16] at o1 o2 o3
          refine ih (i + 1) z16 ⟨o1, o2⟩ (fun d hd => ?_) (by rw [show ((i + 1 : Nat) : Int) = (i : Int) + 1 by omega]; exact h)
          rw [o3, tb_or, Bool.or_eq_true, hb d hd, decide_eq_true_eq]
          constructor
          · rintro (⟨i', a1, a2, a3⟩ | e)
            · exact ⟨i', by omega, a2, a3⟩
            · exact ⟨i, by omega, g1, by omega⟩
          · rintro ⟨i', a1, a2, a3⟩
            by_cases e : i' = i
            · subst e
              exact Or.inr (by omega)
            · exact Or.inl ⟨i', by omega, a2, a3⟩
      · rcases h with ⟨_, h⟩ | ⟨c2, _⟩
        · obtain ⟨_, h⟩ := (h : tr_d_X6_rowMask_2 _ (i : Int) z m)
          refine ih (i + 1) m hm (fun d hd => (hb d hd).trans ⟨fun ⟨i', a1, a2, a3⟩ => ⟨i', by omega, a2, a3⟩, fun ⟨i', a1, a2, a3⟩ => ⟨i', by omega, a2, a3⟩⟩) (by rw [show ((i + 1 : Nat) : Int) = (i : Int) + 1 by omega]; exact h)
        · exact absurd g2 c2
theorem K_rowMask {t k : Nat} {B : St} {z : Int} (hk : k < 4) (hR : RB (tw t B)) (h : q_X6_rowMask (t + 22) (k : Int) B z) : (0 ≤ z ∧ z < 1024) ∧ ∀ d, d < 10 → (z.toNat.testBit d = true ↔ inR (tw t B) k d) := by
  obtain ⟨nn, h⟩ := (h.1 : tr_r_X6_rowMask (t + 22) (k : Int) B z)
  refine K_rowMaskL hk hR nn 0 0 ⟨by decide, by decide⟩ (fun d _ => ⟨fun g => ?_, fun ⟨i', a1, _⟩ => absurd a1 (Nat.not_lt_zero i')⟩) h
  rw [show (0 : Int).toNat = 0 from rfl, Nat.zero_testBit] at g
  exact absurd g Bool.false_ne_true
theorem K_shutMaskL {t : Nat} {B : St} {z : Int} (hR : RB (tw t B)) (h4 : B (t + 1) 2 ≤ 4) : ∀ (nn k : Nat) (m : Int), (0 ≤ m ∧ m < 1024) → (∀ d, d < 10 → (m.toNat.testBit d = true ↔ ((B t 15).toNat.testBit d = true ∨ ∃ k' : Nat, k' < k ∧ (k' : Int) < B (t + 1) 2 ∧ inR (tw t B) k' d))) → d_X9_shutMask_1 t B z nn (k : Int) m → (0 ≤ z ∧ z < 1024) ∧ ∀ d, d < 10 → (z.toNat.testBit d = true ↔ shT (tw t B) d) := by
  intro nn
  induction nn with
  | zero => intro k m _ _ h; exact h.elim
  | succ nn ih =>
    intro k m hm hb h
    obtain ⟨_, _, z11, e11, h⟩ := (h : tr_d_X9_shutMask_1 t B z (fun z2 z3 => d_X9_shutMask_1 t B z nn z2 z3) (k : Int) m)
    have e11 : z11 = B (t + 1) 2 := e11
    rcases h with ⟨c, hz⟩ | ⟨c, z13, h13, z16, e16, h⟩
    · rw [hz]
      refine ⟨hm, fun d hd => (hb d hd).trans ⟨fun g => g.elim Or.inl (fun ⟨k', _, a2, a3⟩ => Or.inr ⟨k', a2, a3⟩), fun g => g.elim Or.inl (fun ⟨k', a2, a3⟩ => Or.inr ⟨k', ?_, a2, a3⟩)⟩⟩
      have a2 : (k' : Int) < B (t + 1) 2 := a2
      omega
    · obtain ⟨y1, y2⟩ := K_rowMask (by omega) hR h13
      obtain ⟨o1, o2, o3⟩ := or_10 hm y1
      rw [← e16] at o1 o2 o3
      refine ih (k + 1) z16 ⟨o1, o2⟩ (fun d hd => ?_) (by rw [show ((k + 1 : Nat) : Int) = (k : Int) + 1 by omega]; exact h)
      rw [o3, Bool.or_eq_true, hb d hd, y2 d hd]
      constructor
      · rintro ((g | ⟨k', a1, a2, a3⟩) | g)
        · exact Or.inl g
        · exact Or.inr ⟨k', by omega, a2, a3⟩
        · exact Or.inr ⟨k, by omega, by omega, g⟩
      · rintro (g | ⟨k', a1, a2, a3⟩)
        · exact Or.inl (Or.inl g)
        · by_cases e : k' = k
          · subst e
            exact Or.inr a3
          · exact Or.inl (Or.inr ⟨k', by omega, a2, a3⟩)
theorem K_shutMask {t : Nat} {B : St} {z : Int} (hR : RB (tw t B)) (h4 : B (t + 1) 2 ≤ 4) (h15 : 0 ≤ B t 15 ∧ B t 15 < 1024) (h : q_X9_shutMask t B z) : (0 ≤ z ∧ z < 1024) ∧ ∀ d, d < 10 → (z.toNat.testBit d = true ↔ shT (tw t B) d) := by
  obtain ⟨nn, h⟩ := (h.1 : tr_r_X9_shutMask t B z)
  exact K_shutMaskL hR h4 nn 0 _ h15 (fun d _ => ⟨fun g => Or.inl g, fun g => g.resolve_right (fun ⟨k', a1, _⟩ => absurd a1 (Nat.not_lt_zero k'))⟩) h
/-- the reference's rows -/
theorem M_isInRowL {b k d : Nat} {A T : St} {z : Int} (hk : (k : Int) < T 1 2) (hK : MKy b A T) : ∀ (nn i : Nat), (∀ i' : Nat, i' < i → (i' : Int) < T 25 k → ¬ T (27 + k) i' = (d : Int)) → d_X12_isInRow_1 (4 * (b : Int) + (k : Int)) (d : Int) A z nn (i : Int) → (z = 1 ↔ inR T k d) ∧ (z = 0 ∨ z = 1) := by
  obtain ⟨_, r25, rr⟩ := hK.1 k hk
  intro nn
  induction nn with
  | zero => intro i _ h; exact h.elim
  | succ nn ih =>
    intro i no h
    obtain ⟨_, z9, e9, h⟩ := (h : tr_d_X12_isInRow_1 (4 * (b : Int) + (k : Int)) (d : Int) A z (fun z1 => d_X12_isInRow_1 (4 * (b : Int) + (k : Int)) (d : Int) A z nn z1) (i : Int))
    rw [show (4 * (b : Int) + (k : Int)).toNat = 4 * b + k by omega, r25] at e9
    rcases h with ⟨c, hz⟩ | ⟨c, z11, e11, h⟩
    · exact ⟨⟨fun e => absurd e (by omega), fun ⟨i', h1, h2⟩ => absurd h2 (no i' (by omega) h1)⟩, Or.inl hz⟩
    · rw [show (10 * (4 * (b : Int) + (k : Int)) + (i : Int)).toNat = 40 * b + 10 * k + i by omega, rr i (by omega)] at e11
      rcases h with ⟨c2, h⟩ | ⟨c2, hz⟩
      · refine ih (i + 1) (fun i' h1 h2 => ?_) (by rw [show ((i + 1 : Nat) : Int) = (i : Int) + 1 by omega]; exact h)
        by_cases e : i' = i
        · subst e
          rw [← e11]
          exact c2
        · exact no i' (by omega) h2
      · exact ⟨⟨fun _ => ⟨i, by omega, by rw [← e11]; exact c2⟩, fun _ => hz⟩, Or.inr hz⟩
theorem M_inRow {b k d : Nat} {A T : St} {z : Int} (hb : A 0 12 = (b : Int)) (hk : (k : Int) < T 1 2) (hK : MKy b A T) (h : q_X12_inRow (k : Int) (d : Int) A z) : (z = 1 ↔ inR T k d) ∧ (z = 0 ∨ z = 1) := by
  obtain ⟨_, _, z4, h4, hz⟩ := (h.1 : tr_r_X12_inRow (k : Int) (d : Int) A z)
  rw [hb] at h4
  obtain ⟨nn, h4⟩ := (h4.1 : tr_r_X12_isInRow (4 * (b : Int) + (k : Int)) (d : Int) A z4)
  rw [hz]
  exact M_isInRowL hk hK nn 0 (fun i' h1 => absurd h1 (Nat.not_lt_zero i')) h4
theorem M_isShutL {b d : Nat} {A T : St} {z : Int} (hb : A 0 12 = (b : Int)) (h11 : A 11 b = T 1 2) (hK : MKy b A T) : ∀ (nn k : Nat), (∀ k' : Nat, k' < k → (k' : Int) < T 1 2 → ¬ inR T k' d) → d_X12_isShut_1 (d : Int) A z nn (k : Int) → (z = 1 ↔ ∃ k' : Nat, (k' : Int) < T 1 2 ∧ inR T k' d) ∧ (z = 0 ∨ z = 1) := by
  intro nn
  induction nn with
  | zero => intro k _ h; exact h.elim
  | succ nn ih =>
    intro k no h
    obtain ⟨_, z14, e14, h⟩ := (h : tr_d_X12_isShut_1 (d : Int) A z (fun z6 => d_X12_isShut_1 (d : Int) A z nn z6) (k : Int))
    rw [hb, Int.toNat_natCast, h11] at e14
    rcases h with ⟨c, hz⟩ | ⟨c, z16, h16, h⟩
    · exact ⟨⟨fun e => absurd e (by omega), fun ⟨k', h1, h2⟩ => absurd h2 (no k' (by omega) h1)⟩, Or.inl hz⟩
    · have hk : (k : Int) < T 1 2 := by omega
      obtain ⟨r1, r2⟩ := M_inRow hb hk hK h16
      rcases h with ⟨c2, h⟩ | ⟨c2, hz⟩
      · refine ih (k + 1) (fun k' h1 h2 g => ?_) (by rw [show ((k + 1 : Nat) : Int) = (k : Int) + 1 by omega]; exact h)
        by_cases e : k' = k
        · subst e
          have := r1.mpr g
          omega
        · exact no k' (by omega) h2 g
      · exact ⟨⟨fun _ => ⟨k, hk, r1.mp (by omega)⟩, fun _ => hz⟩, Or.inr hz⟩
theorem M_isShut {b d : Nat} {A T : St} {z : Int} (hb : A 0 12 = (b : Int)) (h11 : A 11 b = T 1 2) (hK : MKy b A T) (hd : (d : Int) < T 1 1) (hL : MLs b A T) (h : q_X12_isShut (d : Int) A z) : (z = 1 ↔ shT T d) ∧ (z = 0 ∨ z = 1) := by
  obtain ⟨_, _, z4, e4, h⟩ := (h.1 : tr_r_X12_isShut (d : Int) A z)
  rw [hb, show (10 * (b : Int) + (d : Int)).toNat = 10 * b + d by omega] at e4
  have l := hL.2.1 d hd
  rw [← e4] at l
  rcases h with ⟨c, nn, h⟩ | ⟨c, hz⟩
  · obtain ⟨r1, r2⟩ := M_isShutL hb h11 hK nn 0 (fun k' h1 => absurd h1 (Nat.not_lt_zero k')) h
    refine ⟨r1.trans ⟨fun g => Or.inr g, fun g => g.resolve_left ?_⟩, r2⟩
    rw [l.mp c]
    exact Bool.false_ne_true
  · refine ⟨⟨fun _ => Or.inl ?_, fun _ => hz⟩, Or.inr hz⟩
    cases hc : (T 0 15).toNat.testBit d with
    | true => rfl
    | false => exact absurd (l.mpr hc) c
/-- counting -/
def cd (p : Nat → Bool) : Nat → Int
  | 0 => 0
  | n + 1 => cd p n + (if p n = true then 1 else 0)
def pb : Nat → Nat → Int
  | 0, _ => 0
  | f + 1, n => ((n % 2 : Nat) : Int) + pb f (n / 2)
theorem cd_b {p : Nat → Bool} : ∀ n : Nat, 0 ≤ cd p n ∧ cd p n ≤ (n : Int) := by
  intro n
  induction n with
  | zero => exact ⟨Int.le_refl _, Int.le_refl _⟩
  | succ n ih =>
    have e : cd p (n + 1) = cd p n + (if p n = true then 1 else 0) := rfl
    rw [e]
    split <;> omega
theorem cd_more {p : Nat → Bool} {n : Nat} : ∀ m, (∀ k, n ≤ k → k < n + m → p k = false) → cd p (n + m) = cd p n := by
  intro m
  induction m with
  | zero => intro _; rfl
  | succ m ih =>
    intro h
    show cd p (n + m) + (if p (n + m) = true then 1 else 0) = cd p n
    rw [ih (fun k h1 h2 => h k h1 (by omega)), h (n + m) (by omega) (by omega), if_neg (by decide), Int.add_zero]
theorem bc_cd : ∀ x : Fin 1024, bc (x.val : Int) = cd (fun k => x.val.testBit k) 10 := by decide +kernel
theorem pb_cd : ∀ x : Fin 1024, pb 10 x.val = cd (fun k => x.val.testBit k) 10 := by decide +kernel
theorem and_1 : ∀ x : Fin 1024, oAnd (x.val : Int) 1 = ((x.val % 2 : Nat) : Int) := by decide +kernel
theorem pb_0 : ∀ f, pb f 0 = 0 := by
  intro f
  induction f with
  | zero => rfl
  | succ f ih => show ((0 % 2 : Nat) : Int) + pb f (0 / 2) = 0; rw [show 0 / 2 = 0 from rfl, ih]; rfl
theorem M_bitsL {z : Int} : ∀ (f x nn : Nat) (m : Int), x < 2 ^ f → x < 1024 → 0 ≤ m → m + (f : Int) ≤ 1000 → d_X12_bitsOf_1 z nn (x : Int) m → z = m + pb f x := by
  intro f
  induction f with
  | zero =>
    intro x nn m hx _ _ _ h
    have x0 : x = 0 := by
      have : (2 : Nat) ^ 0 = 1 := rfl
      omega
    cases nn with
    | zero => exact h.elim
    | succ nn =>
      obtain ⟨_, _, h⟩ := (h : tr_d_X12_bitsOf_1 z (fun z1 z2 => d_X12_bitsOf_1 z nn z1 z2) (x : Int) m)
      rcases h with ⟨_, hz⟩ | ⟨c, _⟩
      · rw [hz]
        show m = m + 0
        omega
      · omega
  | succ f ih =>
    intro x nn m hx hx2 hm hf h
    cases nn with
    | zero => exact h.elim
    | succ nn =>
      obtain ⟨_, _, h⟩ := (h : tr_d_X12_bitsOf_1 z (fun z1 z2 => d_X12_bitsOf_1 z nn z1 z2) (x : Int) m)
      rcases h with ⟨c, hz⟩ | ⟨c, z10, e10, z11, e11, z12, e12, h⟩
      · have x0 : x = 0 := by omega
        rw [hz, x0, pb_0]
        omega
      · have a := and_1 ⟨x, hx2⟩
        have a : oAnd (x : Int) 1 = ((x % 2 : Nat) : Int) := a
        rw [e10, a, oWrap_id ⟨by omega, by omega⟩] at e11
        have e12 : z12 = ((x / 2 : Nat) : Int) := by omega
        rw [e12] at h
        have hp : (2 : Nat) ^ (f + 1) = 2 ^ f * 2 := Nat.pow_succ 2 f
        have r := ih (x / 2) nn z11 (by omega) (by omega) (by omega) (by omega) h
        rw [r, e11]
        show m + ((x % 2 : Nat) : Int) + pb f (x / 2) = m + (((x % 2 : Nat) : Int) + pb f (x / 2))
        omega
theorem M_bits {x : Nat} {A : St} {z : Int} (hx : x < 1024) (h : q_X12_bitsOf (x : Int) A z) : z = cd (fun k => x.testBit k) 10 := by
  obtain ⟨nn, h⟩ := (h.1 : tr_r_X12_bitsOf (x : Int) A z)
  have r := M_bitsL 10 x nn 0 (by have : (2 : Nat) ^ 10 = 1024 := by decide
                                  omega) hx (Int.le_refl 0) (by decide) h
  have e : pb 10 x = cd (fun k => x.testBit k) 10 := pb_cd ⟨x, hx⟩
  rw [r, e]
  omega
theorem K_bits {x : Nat} {A : St} {z : Int} (hx : x < 1024) (h : q_J6_bitCount_0f7a4 (x : Int) A z) : z = cd (fun k => x.testBit k) 10 := by
  rw [C_bit h]
  exact bc_cd ⟨x, hx⟩
theorem M_closedAllL {b : Nat} {A T : St} {z : Int} {p : Nat → Bool} (hb : A 0 12 = (b : Int)) (h4 : A 4 b = T 1 1) (h10 : T 1 1 ≤ 10) (h11 : A 11 b = T 1 2) (hK : MKy b A T) (hL : MLs b A T) (hp : ∀ d : Nat, (d : Int) < T 1 1 → (p d = true ↔ shT T d)) : ∀ (nn k : Nat) (m : Int), m = cd p k → (k : Int) ≤ T 1 1 → d_X12_closedAll_1 A z nn (k : Int) m → z = cd p (T 1 1).toNat := by
  intro nn
  induction nn with
  | zero => intro k m _ _ h; exact h.elim
  | succ nn ih =>
    intro k m hm hk h
    obtain ⟨_, _, z11, e11, h⟩ := (h : tr_d_X12_closedAll_1 A z (fun z1 z2 => d_X12_closedAll_1 A z nn z1 z2) (k : Int) m)
    rw [hb, Int.toNat_natCast, h4] at e11
    rcases h with ⟨c, hz⟩ | ⟨c, z13, h13, h⟩
    · rw [hz, hm, show (T 1 1).toNat = k by omega]
    · have hd : (k : Int) < T 1 1 := by omega
      obtain ⟨r1, r2⟩ := M_isShut hb h11 hK hd hL h13
      have cb := cd_b (p := p) k
      have on : ∀ w : Int, (w = if p k = true then 1 else 0) → d_X12_closedAll_2 (fun z1 z2 => d_X12_closedAll_1 A z nn z1 z2) (k : Int) m z w → z = cd p (T 1 1).toNat := by
        intro w hw h
        obtain ⟨_, z22, e22, h⟩ := (h : tr_d_X12_closedAll_2 (fun z1 z2 => d_X12_closedAll_1 A z nn z1 z2) (k : Int) m z w)
        have w01 : 0 ≤ w ∧ w ≤ 1 := by rw [hw]; split <;> omega
        rw [oWrap_id ⟨by omega, by omega⟩] at e22
        refine ih (k + 1) z22 ?_ (by omega) (by rw [show ((k + 1 : Nat) : Int) = (k : Int) + 1 by omega]; exact h)
        rw [e22, hm, hw]
        rfl
      rcases h with ⟨c2, h⟩ | ⟨c2, h⟩
      · refine on 0 ?_ h
        rw [if_neg]
        intro g
        have := r1.mpr ((hp k hd).mp g)
        omega
      · refine on 1 ?_ h
        rw [if_pos]
        exact (hp k hd).mpr (r1.mp (by omega))
/-- who holds which key -/
theorem K_keysOfL {t : Nat} {x : Int} {B : St} {z : Int} (h4 : B (t + 1) 2 ≤ 4) : ∀ (nn k : Nat) (m : Int), (0 ≤ m ∧ m < 1024) → (∀ d : Nat, m.toNat.testBit d = true ↔ (d < k ∧ (d : Int) < B (t + 1) 2 ∧ B (t + 24) d = x)) → d_X9_keysOf_1 t x B z nn (k : Int) m → (0 ≤ z ∧ z < 1024) ∧ ∀ d : Nat, (z.toNat.testBit d = true ↔ ((d : Int) < B (t + 1) 2 ∧ B (t + 24) d = x)) := by
  intro nn
  induction nn with
  | zero => intro k m _ _ h; exact h.elim
  | succ nn ih =>
    intro k m hm hb h
    obtain ⟨_, _, z10, e10, h⟩ := (h : tr_d_X9_keysOf_1 t x B z (fun z1 z2 => d_X9_keysOf_1 t x B z nn z1 z2) (k : Int) m)
    have e10 : z10 = B (t + 1) 2 := e10
    rcases h with ⟨c, hz⟩ | ⟨c, z12, e12, h⟩
    · rw [hz]
      exact ⟨hm, fun d => (hb d).trans ⟨fun g => g.2, fun g => ⟨by have := g.1; omega, g⟩⟩⟩
    · rw [Int.toNat_natCast] at e12
      have e12 : z12 = B (t + 24) k := e12
      rcases h with ⟨c2, h⟩ | ⟨c2, z15, e15, z16, e16, h⟩
      · obtain ⟨_, h⟩ := (h : tr_d_X9_keysOf_2 _ (k : Int) z m)
        refine ih (k + 1) m hm (fun d => (hb d).trans ⟨fun g => ⟨by have := g.1; omega, g.2⟩, fun g => ⟨?_, g.2⟩⟩) (by rw [show ((k + 1 : Nat) : Int) = (k : Int) + 1 by omega]; exact h)
        by_cases e : d = k
        · subst e
          exact absurd (e12.trans g.2.2) c2
        · have := g.1
          omega
      · obtain ⟨_, h⟩ := (h : tr_d_X9_keysOf_2 _ (k : Int) z z16)
        rw [e15] at e16
        obtain ⟨o1, o2, o3⟩ := or_bit (x := m) (d := k) hm (by omega)
        rw [← e16] at o1 o2 o3
        refine ih (k + 1) z16 ⟨o1, o2⟩ (fun d => ?_) (by rw [show ((k + 1 : Nat) : Int) = (k : Int) + 1 by omega]; exact h)
        rw [o3, tb_or, Bool.or_eq_true, hb d, decide_eq_true_eq]
        constructor
        · rintro (g | e)
          · exact ⟨by have := g.1; omega, g.2⟩
          · subst e
            exact ⟨by omega, by omega, e12.symm.trans c2⟩
        · rintro ⟨a1, a2⟩
          by_cases e : d = k
          · exact Or.inr e.symm
          · exact Or.inl ⟨by omega, a2⟩
theorem K_keysOf {t : Nat} {x : Int} {B : St} {z : Int} (h4 : B (t + 1) 2 ≤ 4) (h : q_X9_keysOf t x B z) : (0 ≤ z ∧ z < 1024) ∧ ∀ d : Nat, (z.toNat.testBit d = true ↔ ((d : Int) < B (t + 1) 2 ∧ B (t + 24) d = x)) := by
  obtain ⟨nn, h⟩ := (h.1 : tr_r_X9_keysOf t x B z)
  refine K_keysOfL h4 nn 0 0 ⟨by decide, by decide⟩ (fun d => ⟨fun g => ?_, fun g => absurd g.1 (Nat.not_lt_zero d)⟩) h
  rw [show (0 : Int).toNat = 0 from rfl, Nat.zero_testBit] at g
  exact absurd g Bool.false_ne_true
theorem M_keysOfL {b : Nat} {x : Int} {A T : St} {z : Int} (hb : A 0 12 = (b : Int)) (h11 : A 11 b = T 1 2) (h4 : T 1 2 ≤ 4) (hK : MKy b A T) : ∀ (nn k : Nat) (m : Int), (0 ≤ m ∧ m < 1024) → (∀ d : Nat, m.toNat.testBit d = true ↔ (d < k ∧ (d : Int) < T 1 2 ∧ T 24 d = x)) → d_X12_keysOf_1 x A z nn (k : Int) m → (0 ≤ z ∧ z < 1024) ∧ ∀ d : Nat, (z.toNat.testBit d = true ↔ ((d : Int) < T 1 2 ∧ T 24 d = x)) := by
  intro nn
  induction nn with
  | zero => intro k m _ _ h; exact h.elim
  | succ nn ih =>
    intro k m hm hd h
    obtain ⟨_, _, z11, e11, h⟩ := (h : tr_d_X12_keysOf_1 x A z (fun z1 z2 => d_X12_keysOf_1 x A z nn z1 z2) (k : Int) m)
    rw [hb, Int.toNat_natCast, h11] at e11
    rcases h with ⟨c, hz⟩ | ⟨c, z13, _, z16, e16, h⟩
    · rw [hz]
      exact ⟨hm, fun d => (hd d).trans ⟨fun g => g.2, fun g => ⟨by have := g.1; omega, g⟩⟩⟩
    · have hk : (k : Int) < T 1 2 := by omega
      rw [hb, show (4 * (b : Int) + (k : Int)).toNat = 4 * b + k by omega, (hK.1 k hk).1] at e16
      rcases h with ⟨c2, h⟩ | ⟨c2, z19, e19, h⟩
      · obtain ⟨_, z23, e23, h⟩ := (h : tr_d_X12_keysOf_2 (fun z1 z2 => d_X12_keysOf_1 x A z nn z1 z2) (k : Int) m z 0)
        obtain ⟨o1, o2, o3⟩ := or_10 (x := m) (y := 0) hm ⟨by decide, by decide⟩
        rw [← e23] at o1 o2 o3
        refine ih (k + 1) z23 ⟨o1, o2⟩ (fun d => ?_) (by rw [show ((k + 1 : Nat) : Int) = (k : Int) + 1 by omega]; exact h)
        rw [o3, show (0 : Int).toNat = 0 from rfl, Nat.zero_testBit, Bool.or_false, hd d]
        constructor
        · intro g
          exact ⟨by have := g.1; omega, g.2⟩
        · intro g
          refine ⟨?_, g.2⟩
          by_cases e : d = k
          · subst e
            exact absurd (e16.trans g.2.2) c2
          · have := g.1
            omega
      · obtain ⟨_, z23, e23, h⟩ := (h : tr_d_X12_keysOf_2 (fun z1 z2 => d_X12_keysOf_1 x A z nn z1 z2) (k : Int) m z z19)
        rw [e19] at e23
        obtain ⟨o1, o2, o3⟩ := or_bit (x := m) (d := k) hm (by omega)
        rw [← e23] at o1 o2 o3
        refine ih (k + 1) z23 ⟨o1, o2⟩ (fun d => ?_) (by rw [show ((k + 1 : Nat) : Int) = (k : Int) + 1 by omega]; exact h)
        rw [o3, tb_or, Bool.or_eq_true, hd d, decide_eq_true_eq]
        constructor
        · rintro (g | e)
          · exact ⟨by have := g.1; omega, g.2⟩
          · subst e
            exact ⟨by omega, hk, e16.symm.trans c2⟩
        · rintro ⟨a1, a2⟩
          by_cases e : d = k
          · exact Or.inr e.symm
          · exact Or.inl ⟨by omega, a2⟩
theorem M_keysOf {b : Nat} {x : Int} {A T : St} {z : Int} (hb : A 0 12 = (b : Int)) (h11 : A 11 b = T 1 2) (h4 : T 1 2 ≤ 4) (hK : MKy b A T) (h : q_X12_keysOf x A z) : (0 ≤ z ∧ z < 1024) ∧ ∀ d : Nat, (z.toNat.testBit d = true ↔ ((d : Int) < T 1 2 ∧ T 24 d = x)) := by
  obtain ⟨nn, h⟩ := (h.1 : tr_r_X12_keysOf x A z)
  refine M_keysOfL hb h11 h4 hK nn 0 0 ⟨by decide, by decide⟩ (fun d => ⟨fun g => ?_, fun g => absurd g.1 (Nat.not_lt_zero d)⟩) h
  rw [show (0 : Int).toNat = 0 from rfl, Nat.zero_testBit] at g
  exact absurd g Bool.false_ne_true
theorem same_bits {x y : Int} (hx : 0 ≤ x) (hy : 0 ≤ y) (h : ∀ d : Nat, x.toNat.testBit d = true ↔ y.toNat.testBit d = true) : x = y := by
  have e : x.toNat = y.toNat := by
    refine Nat.eq_of_testBit_eq (fun d => ?_)
    have := h d
    cases hx : x.toNat.testBit d with
    | true => exact (this.mp hx).symm
    | false =>
      cases hy : y.toNat.testBit d with
      | true => rw [this.mpr hy] at hx; exact absurd hx (by decide)
      | false => rfl
  omega
/-! Acts: both sides do the same to the same. -/
def AC (b : Nat) (A T : St) : Prop := MKy b A T ∧ MPr b A T ∧ VT T
def ACT (b : Nat) (A T : St) : Prop := A 0 12 = (b : Int) ∧ MRs b A T ∧ AC b A T
def actT : List Nat := [1, 8, 9, 10, 11, 23, 24, 25, 27, 28, 29, 30]
def sT (T T' : St) : Prop := ∀ j, actT.contains j = true → T' j = T j
def sM (A A' : St) : Prop := A' 13 = A 13 ∧ A' 14 = A 14 ∧ A' 15 = A 15 ∧ A' 18 = A 18
theorem sT.rf {T : St} : sT T T := fun _ _ => rfl
theorem sM.rf {A : St} : sM A A := ⟨rfl, rfl, rfl, rfl⟩
theorem sM.trans {A B C : St} (h : sM A B) (g : sM B C) : sM A C := ⟨g.1.trans h.1, g.2.1.trans h.2.1, g.2.2.1.trans h.2.2.1, g.2.2.2.trans h.2.2.2⟩
theorem sM.fr {M' N' : List Nat} {A u : St} (h : fr M' N' A u) (a : M'.contains 13 = false) (b : M'.contains 14 = false) (c : M'.contains 15 = false) (d : M'.contains 18 = false) : sM A u := ⟨h.1 13 (by decide) a, h.1 14 (by decide) b, h.1 15 (by decide) c, h.1 18 (by decide) d⟩
theorem sT.fk {t : Nat} (hT : isT t) {P : List Nat} {F : List (Nat × Nat)} {B u : St} (h : fk P F B u) (hP : actT.all (fun j => !P.contains (51 + j) && !P.contains (82 + j)) = true) (hF : F.all (fun x => decide (x.1 < 51)) = true) : sT (tw t B) (tw t u) := by
  intro j hj
  have p : (!P.contains (51 + j) && !P.contains (82 + j)) = true := List.all_eq_true.mp hP j (List.contains_iff_mem.mp hj)
  simp only [Bool.and_eq_true, Bool.not_eq_true'] at p
  funext k
  refine h (t + j) k ?_ ?_
  · rcases hT with rfl | rfl
    · exact p.1
    · exact p.2
  · cases hc : fin2 F (t + j) k with
    | false => rfl
    | true =>
      have h1 := List.all_eq_true.mp hF _ (fin2_iff.mp hc)
      have h2 : t + j < 51 := of_decide_eq_true h1
      rcases hT with rfl | rfl <;> omega
theorem AC.cg {b : Nat} {A A' T T' : St} (h : AC b A T) (h4 : T 1 2 ≤ 4) (g : sT T T') (gA : sM A A') : AC b A' T' := by
  have e1 := g 1 rfl
  have e8 := g 8 rfl
  have e9 := g 9 rfl
  have e10 := g 10 rfl
  have e11 := g 11 rfl
  have e23 := g 23 rfl
  have e24 := g 24 rfl
  have e25 := g 25 rfl
  have e27 : ∀ k, k < 4 → T' (27 + k) = T (27 + k) := fun k hk => g (27 + k) (by
    rcases (show k = 0 ∨ k = 1 ∨ k = 2 ∨ k = 3 by omega) with rfl | rfl | rfl | rfl <;> rfl)
  refine ⟨⟨fun k hk => ?_, fun k hk h2 => ?_⟩, fun k hk => ?_, ?_⟩
  · rw [e1] at hk
    rw [gA.1, gA.2.1, gA.2.2.1, e24, e25, e27 k (by omega)]
    exact h.1.1 k hk
  · rw [e1] at h2
    rw [e25]
    exact h.1.2 k hk h2
  · rw [e1] at hk
    rw [gA.2.2.2, e23]
    exact h.2.1 k hk
  · have G : GR T T' := by
      refine ⟨?_, fun k _ => ?_⟩
      · rw [e1]
        exact ⟨Int.le_refl _, Int.le_refl _, Int.le_refl _, Int.le_refl _, Int.le_refl _⟩
      · rw [e8, e9, e10]
        exact ⟨rfl, rfl, rfl⟩
    refine h.2.2.step G (fun k h1 h2 => by rw [e1] at h2; omega) (fun k _ => by rw [e23]) (fun k h1 h2 => by rw [e1] at h2; omega) (fun k hk => (h.2.2.2.2.2.1 k hk).gr G (by rw [e24]) (by rw [e25]) (e27 k (by omega))) (fun k h1 h2 => by rw [e1] at h2; omega) (fun k hk h2 => ?_) (fun k _ => by rw [e11]) (fun k h1 h2 => by rw [e1] at h2; omega)
    rw [e1] at h2
    rw [e25]
    exact h.2.2.2.2.2.2.1 k hk h2
theorem ACT.cnt {b : Nat} {A T : St} (h : ACT b A T) : A 2 b = T 1 0 ∧ A 4 b = T 1 1 ∧ A 11 b = T 1 2 ∧ A 16 b = T 1 3 := by
  obtain ⟨_, ⟨⟨k0, k1, k2, k3, _⟩, _⟩, _⟩ := h
  exact ⟨k0.1, k1.1, k2.1, k3.1⟩
theorem ACT.lim {b : Nat} {A T : St} (hI : IM A) (h : ACT b A T) : T 1 0 ≤ 8 ∧ T 1 1 ≤ 10 ∧ T 1 2 ≤ 4 ∧ T 1 3 ≤ 3 := by
  obtain ⟨c0, c1, c2, c3⟩ := h.cnt
  have r0 : A 2 b ≤ 8 := (hI 2 b).2
  have r1 : A 4 b ≤ 10 := (hI 4 b).2
  have r2 : A 11 b ≤ 4 := (hI 11 b).2
  have r3 : A 16 b ≤ 3 := (hI 16 b).2
  exact ⟨by omega, by omega, by omega, by omega⟩
theorem ACT.st {b : Nat} {A T : St} (h : ACT b A T) : NB b A T ∧ MDr b A T ∧ MLs b A T := by
  obtain ⟨_, ⟨_, _, _, nb, dr, ls, _⟩, _⟩ := h
  exact ⟨nb, dr, ls⟩
/-- doors that stand shut, doors that are dead: how many -/
theorem cnt_D {t : Nat} {B : St} {m : Int} {P : Nat → Prop} (h1 : 0 ≤ B (t + 1) 1) (h10 : B (t + 1) 1 ≤ 10) (hm : 0 ≤ m ∧ m < 1024) (hq : ∀ d, d < 10 → (m.toNat.testBit d = true ↔ P d)) (hP : ∀ d, d < 10 → P d → (d : Int) < B (t + 1) 1) : cd (fun k => m.toNat.testBit k) 10 = cd (fun k => m.toNat.testBit k) (B (t + 1) 1).toNat := by
  have z : ∀ k, (B (t + 1) 1).toNat ≤ k → k < (B (t + 1) 1).toNat + (10 - (B (t + 1) 1).toNat) → (fun k => m.toNat.testBit k) k = false := by
    intro k g1 g2
    show m.toNat.testBit k = false
    cases hc : m.toNat.testBit k with
    | false => rfl
    | true =>
      have := hP k (by omega) ((hq k (by omega)).mp hc)
      omega
  have e := cd_more (p := fun k => m.toNat.testBit k) (n := (B (t + 1) 1).toNat) (10 - (B (t + 1) 1).toNat) z
  rw [show (B (t + 1) 1).toNat + (10 - (B (t + 1) 1).toNat) = 10 by omega] at e
  exact e
theorem shT_lt {b : Nat} {A T : St} (h : ACT b A T) {d : Nat} (g : shT T d) : (d : Int) < T 1 1 := by
  by_cases c : (d : Int) < T 1 1
  · exact c
  · exfalso
    rcases g with g | ⟨k, a1, i, a2, a3⟩
    · have := h.st.2.2.2.2 d (by omega)
      rw [this] at g
      exact absurd g Bool.false_ne_true
    · have := (h.2.2.2.2.2.2.2.1 k a1).2.1 i a2
      omega
theorem closed_eq {t b : Nat} {B A : St} {m z1 z2 : Int} (hI : IM A) (h : ACT b A (tw t B)) (hm : q_X9_shutMask t B m) (h1 : q_J6_bitCount_0f7a4 m B z1) (h2 : q_X12_closedAll A z2) : z1 = z2 := by
  obtain ⟨l0, l1, l2, l3⟩ := h.lim hI
  have l1 : B (t + 1) 1 ≤ 10 := l1
  have l2 : B (t + 1) 2 ≤ 4 := l2
  have hv := h.2.2.2.2
  have hv0 : 0 ≤ B (t + 1) 1 := hv.1.2.1
  have ls := h.st.2.2
  obtain ⟨q1, q2⟩ := K_shutMask (hv.rb l1) l2 ls.1 hm
  have e : m = ((m.toNat : Nat) : Int) := by omega
  rw [e] at h1
  have k1 := K_bits (by omega) h1
  obtain ⟨nn, hc⟩ := (h2.1 : tr_r_X12_closedAll A z2)
  have r := M_closedAllL (p := fun k => m.toNat.testBit k) h.1 h.cnt.2.1 l1 h.cnt.2.2.1 h.2.2.1 ls (fun k hk => q2 k (by have hk : (k : Int) < B (t + 1) 1 := hk; omega)) nn 0 0 rfl hv0 hc
  have r : z2 = cd (fun k => m.toNat.testBit k) (B (t + 1) 1).toNat := r
  have c := cnt_D hv0 l1 q1 q2 (fun d _ g => shT_lt h g)
  rw [k1, r, c]
/-- what is there -/
theorem K_there1 {t : Nat} {x z : Int} {B : St} (h : q_X9_isThere_1_1 t x B z) : (z = 1 ↔ 0 ≤ x ∧ x < B (t + 1) 1) ∧ (z = 0 ∨ z = 1) := by
  rcases (h.1 : tr_r_X9_isThere_1_1 t x B z) with ⟨c, e⟩ | ⟨c, z4, e4, h⟩
  · omega
  · have e4 : z4 = B (t + 1) 1 := e4
    rcases h with ⟨c2, e⟩ | ⟨c2, e⟩ <;> omega
theorem K_there2 {t : Nat} {x z : Int} {B : St} (h : q_X9_isThere_1_2 t x B z) : (z = 1 ↔ 0 ≤ x ∧ x < B (t + 1) 2) ∧ (z = 0 ∨ z = 1) := by
  rcases (h.1 : tr_r_X9_isThere_1_2 t x B z) with ⟨c, e⟩ | ⟨c, z4, e4, h⟩
  · omega
  · have e4 : z4 = B (t + 1) 2 := e4
    rcases h with ⟨c2, e⟩ | ⟨c2, e⟩ <;> omega
theorem K_there3 {t : Nat} {x z : Int} {B : St} (h : q_X9_isThere_1_3 t x B z) : (z = 1 ↔ 0 ≤ x ∧ x < B (t + 1) 3) ∧ (z = 0 ∨ z = 1) := by
  rcases (h.1 : tr_r_X9_isThere_1_3 t x B z) with ⟨c, e⟩ | ⟨c, z4, e4, h⟩
  · omega
  · have e4 : z4 = B (t + 1) 3 := e4
    rcases h with ⟨c2, e⟩ | ⟨c2, e⟩ <;> omega
theorem M_isDoor {b : Nat} {x z : Int} {A T : St} (hI : IM A) (hA : ACT b A T) (h : q_X12_isDoor x A z) : (z = 1 ↔ 0 ≤ x ∧ x < T 1 1) ∧ (z = 0 ∨ z = 1) := by
  have q := h.2
  have l := hA.lim hI
  rw [hA.1, Int.toNat_natCast, hA.cnt.2.1] at q
  omega
theorem M_isKey {b : Nat} {x z : Int} {A T : St} (hI : IM A) (hA : ACT b A T) (h : q_X12_isKey x A z) : (z = 1 ↔ 0 ≤ x ∧ x < T 1 2) ∧ (z = 0 ∨ z = 1) := by
  have q := h.2
  have l := hA.lim hI
  rw [hA.1, Int.toNat_natCast, hA.cnt.2.2.1] at q
  omega
theorem M_isPerson {b : Nat} {x z : Int} {A T : St} (hI : IM A) (hA : ACT b A T) (h : q_X12_isPerson x A z) : (z = 1 ↔ 0 ≤ x ∧ x < T 1 3) ∧ (z = 0 ∨ z = 1) := by
  have q := h.2
  have l := hA.lim hI
  rw [hA.1, Int.toNat_natCast, hA.cnt.2.2.2] at q
  omega
theorem M_isPlace {b : Nat} {x z : Int} {A T : St} (hI : IM A) (hA : ACT b A T) (h : q_X12_isPlace x A z) : (z = 1 ↔ 0 ≤ x ∧ x < T 1 0) ∧ (z = 0 ∨ z = 1) := by
  have q := h.2
  have l := hA.lim hI
  rw [hA.1, Int.toNat_natCast, hA.cnt.1] at q
  omega
theorem K_isBox {t : Nat} {x z : Int} {B : St} (h : q_X9_isBox t x B z) : (z = 1 ↔ 0 ≤ x ∧ x < B (t + 1) 1 ∧ B (t + 10) x.toNat = 0) ∧ (z = 0 ∨ z = 1) := by
  rcases (h.1 : tr_r_X9_isBox t x B z) with ⟨c, e⟩ | ⟨c, z2, e2, h⟩
  · omega
  · have e2 : z2 = B (t + 1) 1 := e2
    rcases h with ⟨c2, e⟩ | ⟨c2, z4, e4, h⟩
    · omega
    · rcases h with ⟨c3, e⟩ | ⟨c3, e⟩ <;> omega
theorem K_isAt {t : Nat} {x p z : Int} {B : St} (h : q_X9_isAt t x p B z) : (z = 1 ↔ 0 ≤ x ∧ x < B (t + 1) 1 ∧ (B (t + 8) x.toNat = p ∨ B (t + 9) x.toNat = p)) ∧ (z = 0 ∨ z = 1) := by
  rcases (h.1 : tr_r_X9_isAt t x p B z) with ⟨c, e⟩ | ⟨c, z2, e2, h⟩
  · omega
  · have e2 : z2 = B (t + 1) 1 := e2
    rcases h with ⟨c2, e⟩ | ⟨c2, z4, e4, h⟩
    · omega
    · rcases h with ⟨c3, e⟩ | ⟨c3, z6, e6, h⟩
      · omega
      · rcases h with ⟨c4, e⟩ | ⟨c4, e⟩ <;> omega
theorem K_other {t d : Nat} {p z : Int} {B : St} (hd : (d : Int) < B (t + 1) 1) (h : q_X9_otherSide t (d : Int) p B z) : z = if B (t + 8) d = p then B (t + 9) d else B (t + 8) d := by
  obtain ⟨z1, h1, h⟩ := (h.1 : tr_r_X9_otherSide t (d : Int) p B z)
  have k := K_there1 h1
  rcases h with ⟨_, z5, e5, h⟩ | ⟨c, _⟩
  · rw [Int.toNat_natCast] at e5
    rcases h with ⟨c, hz⟩ | ⟨c, z8, e8, hz⟩
    · rw [if_neg (by rw [← e5]; exact c), hz, e5]
    · rw [Int.toNat_natCast] at e8
      rw [if_pos (by rw [← e5]; exact c), hz, e8]
  · omega
theorem M_isAt {b d : Nat} {p z : Int} {A T : St} (hA : ACT b A T) (hd : (d : Int) < T 1 1) (h : q_X12_isAt p (d : Int) A z) : (z = 1 ↔ T 8 d = p ∨ T 9 d = p) ∧ (z = 0 ∨ z = 1) := by
  have dr := hA.st.2.1 d hd
  obtain ⟨_, _, z4, e4, h⟩ := (h.1 : tr_r_X12_isAt p (d : Int) A z)
  rw [hA.1, show (10 * (b : Int) + (d : Int)).toNat = 10 * b + d by omega, dr.1] at e4
  rcases h with ⟨c, e⟩ | ⟨c, _, _, z9, e9, h⟩
  · omega
  · rw [hA.1, show (10 * (b : Int) + (d : Int)).toNat = 10 * b + d by omega, dr.2.1] at e9
    rcases h with ⟨c2, e⟩ | ⟨c2, e⟩ <;> omega
theorem M_other {b d : Nat} {p z : Int} {A T : St} (hb : A 0 12 = (b : Int)) (hD : MDr b A T) (hd : (d : Int) < T 1 1) (h : q_X12_otherSide (d : Int) p A z) : z = if T 8 d = p then T 9 d else T 8 d := by
  have dr := hD d hd
  obtain ⟨_, _, z4, e4, h⟩ := (h.1 : tr_r_X12_otherSide (d : Int) p A z)
  rw [hb, show (10 * (b : Int) + (d : Int)).toNat = 10 * b + d by omega, dr.1] at e4
  rcases h with ⟨c, _, _, z9, e9, hz⟩ | ⟨c, _, _, z13, e13, hz⟩
  · rw [hb, show (10 * (b : Int) + (d : Int)).toNat = 10 * b + d by omega, dr.1] at e9
    rw [if_neg (by rw [← e4]; exact c), hz, e9]
  · rw [hb, show (10 * (b : Int) + (d : Int)).toNat = 10 * b + d by omega, dr.2.1] at e13
    rw [if_pos (by rw [← e4]; exact c), hz, e13]
theorem M_spotOf {b p : Nat} {z : Int} {A T : St} (hb : A 0 12 = (b : Int)) (hP : MPr b A T) (hp : (p : Int) < T 1 3) (h : q_X12_placeOf (p : Int) A z) : z = T 23 p := by
  obtain ⟨z1, e1, hz⟩ := (h.1 : tr_r_X12_placeOf (p : Int) A z)
  rw [hb, show (3 * (b : Int) + (p : Int)).toNat = 3 * b + p by omega, hP p hp] at e1
  rw [hz, e1]
/-- a person goes -/
theorem VT_spot {T : St} {q : Nat} {a : Int} (h : VT T) (ha : 0 ≤ a ∧ a < T 1 0) : VT (stA T 23 q a) := by
  have g : GR T (stA T 23 q a) := GR.rf
  refine ⟨h.1, h.2.1, fun k hk => ?_, fun k hk => (h.2.2.2.1 k hk).gr g rfl rfl (stA_ne _ _ (by omega)), h.2.2.2.2.1, fun k hk => (h.2.2.2.2.2 k hk).gr g⟩
  show 0 ≤ up (T 23) q a k ∧ up (T 23) q a k < T 1 0
  by_cases e : k = q
  · rw [e, up_same]; exact ha
  · rw [up_ne _ _ e]; exact h.2.2.1 k hk
theorem AC_spot {b p : Nat} {A T : St} {v : Int} (h : AC b A T) (hv : 0 ≤ v ∧ v < T 1 0) : AC b (stA A 18 (3 * b + p) v) (stA T 23 p v) := by
  refine ⟨h.1.cg rfl rfl rfl rfl rfl rfl (fun k => stA_ne _ _ (by omega)), fun k hk => ?_, VT_spot h.2.2 hv⟩
  show up (A 18) (3 * b + p) v (3 * b + k) = up (T 23) p v k
  by_cases e : k = p
  · rw [e, up_same, up_same]
  · rw [up_ne _ _ e, up_ne _ _ (by omega)]
    exact h.2.1 k hk
theorem AC_where {b q : Nat} {A T : St} {v : Int} (h : AC b A T) (hv : WV T v) : AC b (stA A 13 (4 * b + q) v) (stA T 24 q v) := by
  refine ⟨⟨fun k hk => ?_, h.1.2⟩, h.2.1, VT_where h.2.2 hv⟩
  have e27 : stA T 24 q v (27 + k) = T (27 + k) := stA_ne _ _ (by omega)
  rw [e27]
  have x := h.1.1 k hk
  refine ⟨?_, x.2.1, x.2.2⟩
  show up (A 13) (4 * b + q) v (4 * b + k) = up (T 24) q v k
  by_cases e : k = q
  · rw [e, up_same, up_same]
  · rw [up_ne _ _ e, up_ne _ _ (by omega)]
    exact x.1
theorem AC_pop {b q : Nat} {A T : St} {v : Int} (h : AC b A T) (hq : (q : Int) < T 1 2) (hv : 0 ≤ v ∧ v ≤ T 25 q) : AC b (stA A 14 (4 * b + q) v) (stA T 25 q v) := by
  have e27 : ∀ k, stA T 25 q v (27 + k) = T (27 + k) := fun k => stA_ne _ _ (by omega)
  have g : GR T (stA T 25 q v) := GR.rf
  have le : ∀ k, up (T 25) q v k ≤ T 25 k ∧ (k ≠ q → up (T 25) q v k = T 25 k) := by
    intro k
    by_cases e : k = q
    · subst e
      rw [up_same]
      exact ⟨hv.2, fun n => absurd rfl n⟩
    · rw [up_ne _ _ e]
      exact ⟨Int.le_refl _, fun _ => rfl⟩
  refine ⟨⟨fun k hk => ?_, fun k hk h2 => ?_⟩, h.2.1, ⟨h.2.2.1, h.2.2.2.1, h.2.2.2.2.1, fun k hk => ?_, fun k hk h2 => ?_, h.2.2.2.2.2.2.2⟩⟩
  · have x := h.1.1 k hk
    rw [e27]
    refine ⟨x.1, ?_, fun i hi => x.2.2 i ?_⟩
    · show up (A 14) (4 * b + q) v (4 * b + k) = up (T 25) q v k
      by_cases e : k = q
      · rw [e, up_same, up_same]
      · rw [up_ne _ _ e, up_ne _ _ (by omega)]
        exact x.2.1
    · have hi : (i : Int) < up (T 25) q v k := hi
      have := (le k).1
      omega
  · have h2 : T 1 2 ≤ (k : Int) := h2
    show up (T 25) q v k = 0
    rw [(le k).2 (by omega)]
    exact h.1.2 k hk h2
  · obtain ⟨x1, x2, x3, x4⟩ := h.2.2.2.2.2.1 k hk
    have l := (le k).1
    have n := (le k).2
    unfold KV
    rw [e27]
    refine ⟨?_, fun i hi => x2 i ?_, fun i j hij hj => x3 i j hij ?_, x4⟩
    · show 0 ≤ up (T 25) q v k ∧ up (T 25) q v k ≤ 6
      by_cases e : k = q
      · subst e
        rw [up_same]
        omega
      · rw [n e]
        exact x1
    · have hi : (i : Int) < up (T 25) q v k := hi
      omega
    · have hj : (j : Int) < up (T 25) q v k := hj
      omega
  · have h2 : T 1 2 ≤ (k : Int) := h2
    show up (T 25) q v k = 0
    rw [(le k).2 (by omega)]
    exact h.1.2 k hk h2
theorem AC_push {b q n : Nat} {A T : St} {d : Int} (h : AC b A T) (hq : (q : Int) < T 1 2) (hn : T 25 q = (n : Int)) (h6 : n < 6) (hd : 0 ≤ d ∧ d < T 1 1) (hu : ∀ i : Nat, i < n → T (27 + q) i ≠ d) : AC b (stA (stA A 15 (40 * b + 10 * q + n) d) 14 (4 * b + q) ((n : Int) + 1)) (stA (stA T (27 + q) n d) 25 q ((n : Int) + 1)) := by
  refine ⟨⟨fun k hk => ?_, fun k hk h2 => ?_⟩, fun k hk => ?_, VT_push h.2.2 hq hn h6 hd hu⟩
  · have hk : (k : Int) < T 1 2 := by
      have e : stA (stA T (27 + q) n d) 25 q ((n : Int) + 1) 1 = T 1 := by rw [stA_ne _ _ (by omega), stA_ne _ _ (by omega)]
      rw [e] at hk
      exact hk
    have x := h.1.1 k hk
    have t24 : stA (stA T (27 + q) n d) 25 q ((n : Int) + 1) 24 = T 24 := by rw [stA_ne _ _ (by omega), stA_ne _ _ (by omega)]
    have t25 : stA (stA T (27 + q) n d) 25 q ((n : Int) + 1) 25 = up (T 25) q ((n : Int) + 1) := by rw [stA_same, stA_ne _ _ (by omega)]
    have a13 : stA (stA A 15 (40 * b + 10 * q + n) d) 14 (4 * b + q) ((n : Int) + 1) 13 = A 13 := rfl
    have a14 : stA (stA A 15 (40 * b + 10 * q + n) d) 14 (4 * b + q) ((n : Int) + 1) 14 = up (A 14) (4 * b + q) ((n : Int) + 1) := rfl
    have a15 : stA (stA A 15 (40 * b + 10 * q + n) d) 14 (4 * b + q) ((n : Int) + 1) 15 = up (A 15) (40 * b + 10 * q + n) d := rfl
    rw [t24, t25, a13, a14, a15]
    by_cases e : k = q
    · subst e
      have t27 : stA (stA T (27 + k) n d) 25 k ((n : Int) + 1) (27 + k) = up (T (27 + k)) n d := by rw [stA_ne _ _ (by omega), stA_same]
      rw [t27, up_same, up_same]
      refine ⟨x.1, rfl, fun i hi => ?_⟩
      by_cases e2 : i = n
      · rw [e2, up_same, up_same]
      · rw [up_ne _ _ e2, up_ne _ _ (by omega)]
        exact x.2.2 i (by omega)
    · have t27 : stA (stA T (27 + q) n d) 25 q ((n : Int) + 1) (27 + k) = T (27 + k) := by rw [stA_ne _ _ (by omega), stA_ne _ _ (by omega)]
      have k6 := (h.2.2.2.2.2.1 k hk).1
      rw [t27, up_ne _ _ e, up_ne _ _ (by omega)]
      refine ⟨x.1, x.2.1, fun i hi => ?_⟩
      rw [up_ne _ _ (by omega)]
      exact x.2.2 i hi
  · have e1 : stA (stA T (27 + q) n d) 25 q ((n : Int) + 1) 1 = T 1 := by rw [stA_ne _ _ (by omega), stA_ne _ _ (by omega)]
    have t25 : stA (stA T (27 + q) n d) 25 q ((n : Int) + 1) 25 = up (T 25) q ((n : Int) + 1) := by rw [stA_same, stA_ne _ _ (by omega)]
    rw [e1] at h2
    rw [t25, up_ne _ _ (by omega)]
    exact h.1.2 k hk h2
  · have e1 : stA (stA T (27 + q) n d) 25 q ((n : Int) + 1) 1 = T 1 := by rw [stA_ne _ _ (by omega), stA_ne _ _ (by omega)]
    have t23 : stA (stA T (27 + q) n d) 25 q ((n : Int) + 1) 23 = T 23 := by rw [stA_ne _ _ (by omega), stA_ne _ _ (by omega)]
    rw [e1] at hk
    rw [t23]
    exact h.2.1 k hk
/-! The calls that act: the same answer, the same change. -/
theorem go_no {A u : St} {z : Int} (h : d_X12_go_2 z u (-1) A) : z = -1 ∧ sM A u := by
  obtain ⟨_, _, h⟩ := (h : tr_d_X12_go_2 z u (-1) A)
  rcases h with ⟨c, -⟩ | ⟨_, z23, A24, hr, hz, hu⟩
  · exact absurd rfl c
  · rw [hz, hu]
    exact ⟨hr.2.2.2, sM.fr hr.2.2.1 rfl rfl rfl rfl⟩
theorem gone_eq {t b p d : Nat} {B A u1 A12 : St} {z1 y11 : Int} (hT : isT t) (hI : IM A) (h : ACT b A (tw t B)) (hC : MBc b A (tw t B)) (hp : (p : Int) < B (t + 1) 3) (hd : (d : Int) < B (t + 1) 1) (h1 : q_X9_goThrough t (p : Int) (d : Int) B z1 u1) (hg : q_X12_gone (p : Int) (d : Int) A y11 A12) : z1 = y11 ∧ AC b A12 (tw t u1) := by
  obtain ⟨l0, l1, l2, l3⟩ := h.lim hI
  have l0 : B (t + 1) 0 ≤ 8 := l0
  have l1 : B (t + 1) 1 ≤ 10 := l1
  have l2 : B (t + 1) 2 ≤ 4 := l2
  have l3 : B (t + 1) 3 ≤ 3 := l3
  have hv := h.2.2.2.2
  have rb := hv.rb l1
  obtain ⟨nb, dr, ls⟩ := h.st
  have h15 : 0 ≤ B t 15 ∧ B t 15 < 1024 := ls.1
  have no : ∀ A', sM A A' → sT (tw t B) (tw t u1) → z1 = -1 → y11 = -1 → A12 = A' → z1 = y11 ∧ AC b A12 (tw t u1) := fun A' g1 g2 g3 g4 g5 => ⟨g3.trans g4.symm, by rw [g5]; exact h.2.2.cg l2 g2 g1⟩
  obtain ⟨a3, ha3, h1⟩ := (h1.1 : tr_r_X9_goThrough t (p : Int) (d : Int) B z1 u1)
  have k3 := K_there3 ha3
  rcases h1 with ⟨c, -⟩ | ⟨c, a5, ha5, h1⟩
  · omega
  have k1 := K_there1 ha5
  rcases h1 with ⟨c4, -⟩ | ⟨c4, a9, ha9, h1⟩
  · omega
  have kb := K_isBox ha9
  rw [Int.toNat_natCast] at kb
  have nbd : A 8 (10 * b + d) = 0 ↔ B (t + 10) d ≠ 0 := nb d hd
  obtain ⟨s, hs, _, _, w7, e7, hg'⟩ := (hg.1 : tr_r_X12_gone (p : Int) (d : Int) A y11 A12)
  have es : s = B (t + 23) p := M_spotOf h.1 h.2.2.2.1 hp hs
  have bs : 0 ≤ s ∧ s ≤ 7 := hs.2
  rw [h.1, show (10 * (b : Int) + (d : Int)).toNat = 10 * b + d by omega] at e7
  rcases h1 with ⟨c5, a13, e13, a14, h14, a17, h17, h1⟩ | ⟨c5, hz, hu⟩
  case inr =>
    rcases hg' with ⟨_, hz2, hu2⟩ | ⟨c6, -⟩
    · exact no A sM.rf (by rw [hu]; exact sT.rf) hz hz2 hu2
    · exact absurd (nbd.mp (by omega)) (by omega)
  rcases hg' with ⟨c6, -⟩ | ⟨_, y9, hy9, hg'⟩
  · exact absurd (nbd.mpr (by (first | omega | (clear h1; omega) | (clear h2; omega) | (clear hg'; omega) | (clear h1 h2; omega) | (clear h1 hg'; omega)))) (by omega)
  rw [Int.toNat_natCast] at e13
  have e13 : a13 = B (t + 23) p := e13
  rw [← es] at e13
  subst e13
  have k17 := K_isAt h17
  rw [Int.toNat_natCast] at k17
  have m9 : (y9 = 1 ↔ B (t + 8) d = a13 ∨ B (t + 9) d = a13) ∧ (y9 = 0 ∨ y9 = 1) := M_isAt h hd hy9
  rcases h1 with ⟨c7, hz, hu⟩ | ⟨c7, a21, e21, a22, e22, h1⟩
  · rcases hg' with ⟨_, hz2, hu2⟩ | ⟨c8, -⟩
    · exact no A sM.rf (by rw [hu]; exact sT.rf) hz hz2 hu2
    · omega
  rcases hg' with ⟨c8, -⟩ | ⟨_, y13, hy13, hg'⟩
  · (first | omega | (clear h1; omega) | (clear h2; omega) | (clear hg'; omega) | (clear h1 h2; omega) | (clear h1 hg'; omega))
  obtain ⟨q1, q2⟩ := K_shutMask rb l2 h15 h14
  have m13 := M_isShut h.1 h.cnt.2.2.1 h.2.2.1 hd ls hy13
  have bi := bit_iff (d := d) q1 (by omega)
  rw [← e21, ← e22] at bi
  have q2d := q2 d (by omega)
  rcases h1 with ⟨c9, a24, h24, a27, h27, a30, h30, a33, A34, h33, h1⟩ | ⟨c9, hz, hu⟩
  case inr =>
    rcases hg' with ⟨_, hz2, hu2⟩ | ⟨c10, -⟩
    · exact no A sM.rf (by rw [hu]; exact sT.rf) hz hz2 hu2
    · exfalso
      have : a14.toNat.testBit d = true := by
        cases hc : a14.toNat.testBit d with
        | true => rfl
        | false => exact absurd (bi.mpr hc) c9
      have := m13.1.mpr (q2d.mp this)
      omega
  rcases hg' with ⟨c10, -⟩ | ⟨_, y17, hy17, y20, hy20, y23, hy23, y26, A27, hy26, hg'⟩
  · exfalso
    have e := q2d.mpr (m13.1.mp (by (first | omega | (clear h1; omega) | (clear h2; omega) | (clear hg'; omega) | (clear h1 h2; omega) | (clear h1 hg'; omega))))
    rw [bi.mp c9] at e
    exact absurd e Bool.false_ne_true
  have kk := K_keysOf l2 h24
  have mk := M_keysOf h.1 h.cnt.2.2.1 l2 h.2.2.1 hy17
  have ek : a24 = y17 := same_bits kk.1.1 mk.1.1 (fun d => (kk.2 d).trans (mk.2 d).symm)
  have eheld : a27 = cd (fun k => a24.toNat.testBit k) 10 := by
    have e : a24 = ((a24.toNat : Nat) : Int) := by have := kk.1; omega
    rw [e] at h27
    have := K_bits (by have := kk.1; omega) h27
    exact this
  have eheld2 : y20 = cd (fun k => a24.toNat.testBit k) 10 := by
    have e : y17 = ((a24.toNat : Nat) : Int) := by have := kk.1; omega
    rw [e] at hy20
    exact M_bits (by have := kk.1; omega) hy20
  have ecl : a30 = y23 := closed_eq hI h h14 h30 hy23
  rw [eheld2, ← eheld] at hy26
  rw [← ecl] at hy26
  have cbh := cd_b (p := fun k => a24.toNat.testBit k) 10
  have cbc : 0 ≤ a30 ∧ a30 ≤ 10 := by
    have e : a14 = ((a14.toNat : Nat) : Int) := by omega
    rw [e] at h30
    rw [K_bits (by omega) h30]
    exact cd_b 10
  rw [← eheld] at cbh
  have bars : ∀ k : Nat, (k : Int) < B (t + 1) 7 → A 30 (6 * b + k) = B (t + 16) k := by
    obtain ⟨_, ⟨_, _, _, _, _, _, _, _, _, mb⟩, _⟩ := h
    exact mb
  have c7' : A 29 b = B (t + 1) 7 := by
    obtain ⟨_, ⟨_, mc, _⟩, _⟩ := h
    exact mc.2.2
  have eb := barred_eq hT c7' h.1 bars hC ⟨⟨by omega, by omega⟩, ⟨by omega, by omega⟩, ⟨by omega, by omega⟩, by omega, by omega⟩ h33 hy26
  have g34 : sT (tw t B) (tw t A34) := sT.fk hT h33.2.2.1 rfl rfl
  have g27 : sM A A27 := sM.fr hy26.2.2.1 rfl rfl rfl rfl
  rcases h1 with ⟨c11, a38, h38, A41, e41, hz, hu⟩ | ⟨c11, hz, hu⟩
  · rcases hg' with ⟨_, y32, hy32, A35, e35, y36, hy36, hz2, hu2⟩ | ⟨c12, -⟩
    · have r1 : A34 (t + 1) = B (t + 1) := g34 1 rfl
      have r8 : A34 (t + 8) = B (t + 8) := g34 8 rfl
      have r9 : A34 (t + 9) = B (t + 9) := g34 9 rfl
      have o1 := K_other (by rw [r1]; exact hd) h38
      rw [r8, r9] at o1
      have b27 : A27 0 12 = (b : Int) := (hy26.2.2.1.2 12 rfl).trans h.1
      have dr27 : MDr b A27 (tw t B) := by
        intro k hk
        rw [hy26.2.2.1.1 6 (by decide) rfl, hy26.2.2.1.1 7 (by decide) rfl, hy26.2.2.1.1 9 (by decide) rfl]
        exact dr k hk
      have o2 : y32 = if B (t + 8) d = a13 then B (t + 9) d else B (t + 8) d := M_other b27 dr27 hd hy32
      have o3 : y32 = a38 := o2.trans o1.symm
      have dv := hv.2.1 d hd
      have dv8 : 0 ≤ B (t + 8) d ∧ B (t + 8) d < B (t + 1) 0 := dv.1
      have dv9 : 0 ≤ B (t + 9) d ∧ B (t + 9) d < B (t + 1) 0 := dv.2.1
      have bv : 0 ≤ a38 ∧ a38 < B (t + 1) 0 := by
        rw [o1]
        split
        · exact dv9
        · exact dv8
      have e35 : A35 = stA A27 18 (3 * b + p) a38 := by
        rw [e35, h.1, show (3 * (b : Int) + (p : Int)).toNat = 3 * b + p by omega, o3]
      have b35 : A35 0 12 = (b : Int) := by rw [e35]; exact b27
      obtain ⟨y37, e37, hy36⟩ := (hy36.1 : tr_r_X12_placeOf (p : Int) A35 y36)
      rw [b35, show (3 * (b : Int) + (p : Int)).toNat = 3 * b + p by omega, e35, stA_same, up_same] at e37
      rw [Int.toNat_natCast] at e41
      have e41 : A41 = stA A34 (t + 23) p a38 := e41
      refine ⟨by rw [hz, hz2, hy36, e37], ?_⟩
      rw [hu2, hu, e35, e41, tw_st]
      have ac : AC b A27 (tw t A34) := h.2.2.cg l2 g34 g27
      refine AC_spot ac ?_
      show 0 ≤ a38 ∧ a38 < A34 (t + 1) 0
      rw [r1]
      exact bv
    · omega
  · rcases hg' with ⟨c12, -⟩ | ⟨_, hz2, hu2⟩
    · omega
    · exact no A27 g27 (by rw [hu]; exact g34) hz hz2 hu2
theorem go_eq {t b : Nat} {B A u1 u2 : St} {x1 x2 z1 z2 : Int} (hT : isT t) (hI : IM A) (h : ACT b A (tw t B)) (hC : MBc b A (tw t B)) (qq1 : q_X9_goThrough t x1 x2 B z1 u1) (qq2 : q_X12_go x1 x2 A z2 u2) : z1 = z2 ∧ AC b u2 (tw t u1) := by
  have l2 : B (t + 1) 2 ≤ 4 := (h.lim hI).2.2.1
  have q1 := qq1
  have no : sT (tw t B) (tw t u1) → z1 = -1 → d_X12_go_2 z2 u2 (-1) A → z1 = z2 ∧ AC b u2 (tw t u1) := fun g2 g3 g4 => ⟨g3.trans (go_no g4).1.symm, h.2.2.cg l2 g2 (go_no g4).2⟩
  obtain ⟨a3, ha3, h1⟩ := (qq1.1 : tr_r_X9_goThrough t x1 x2 B z1 u1)
  obtain ⟨y1, hy1, h2⟩ := (qq2.1 : tr_r_X12_go x1 x2 A z2 u2)
  have k3 := K_there3 ha3
  have m3 : (y1 = 1 ↔ 0 ≤ x1 ∧ x1 < B (t + 1) 3) ∧ (y1 = 0 ∨ y1 = 1) := M_isPerson hI h hy1
  rcases h1 with ⟨c, hz, hu⟩ | ⟨c, a5, ha5, h1⟩
  · rcases h2 with ⟨_, h2⟩ | ⟨c2, -⟩
    · exact no (by rw [hu]; exact sT.rf) hz h2
    · omega
  rcases h2 with ⟨c2, -⟩ | ⟨_, y7, hy7, h2⟩
  · (first | omega | (clear h1; omega) | (clear h2; omega) | (clear hg'; omega) | (clear h1 h2; omega) | (clear h1 hg'; omega))
  have k1 := K_there1 ha5
  have m1 : (y7 = 1 ↔ 0 ≤ x2 ∧ x2 < B (t + 1) 1) ∧ (y7 = 0 ∨ y7 = 1) := M_isDoor hI h hy7
  rcases h1 with ⟨c4, hz, hu⟩ | ⟨c4, -⟩
  · rcases h2 with ⟨_, h2⟩ | ⟨c2, -⟩
    · exact no (by rw [hu]; exact sT.rf) hz h2
    · omega
  rcases h2 with ⟨c2, -⟩ | ⟨_, y11, A12, hg, h2⟩
  · omega
  obtain ⟨p, rfl⟩ : ∃ p : Nat, x1 = (p : Int) := ⟨x1.toNat, by omega⟩
  obtain ⟨d, rfl⟩ : ∃ d : Nat, x2 = (d : Int) := ⟨x2.toNat, by omega⟩
  obtain ⟨e, ac⟩ := gone_eq hT hI h hC (by omega) (by omega) q1 hg
  have s1 : tw t u1 1 2 ≤ 4 := by
    have r1 : u1 (t + 1) 2 = B (t + 1) 2 := by
      rcases hT with e0 | e0
      · rw [e0]; exact q1.2.2.1 52 2 rfl rfl
      · rw [e0]; exact q1.2.2.1 83 2 rfl rfl
    show u1 (t + 1) 2 ≤ 4
    rw [r1]
    exact l2
  obtain ⟨_, _, h2⟩ := (h2 : tr_d_X12_go_2 z2 u2 y11 A12)
  rcases h2 with ⟨_, hz3, hu3⟩ | ⟨c13, y23, A24, hr, hz3, hu3⟩
  · rw [hu3]
    exact ⟨e.trans hz3.symm, ac⟩
  · rw [hu3]
    exact ⟨by rw [e, c13, hz3, hr.2.2.2], ac.cg s1 sT.rf (sM.fr hr.2.2.1 rfl rfl rfl rfl)⟩
/-- to have a key -/
theorem K_holds {t : Nat} {x k z : Int} {B : St} (h : q_X9_holdsKey t x k B z) : (z = 1 ↔ (0 ≤ x ∧ x < B (t + 1) 3) ∧ (0 ≤ k ∧ k < B (t + 1) 2) ∧ B (t + 24) k.toNat = x) ∧ (z = 0 ∨ z = 1) := by
  obtain ⟨a1, h1, h⟩ := (h.1 : tr_r_X9_holdsKey t x k B z)
  have k1 := K_there3 h1
  rcases h with ⟨c, e⟩ | ⟨c, a5, h5, h⟩
  · omega
  · have k5 := K_there2 h5
    rcases h with ⟨c2, e⟩ | ⟨c2, a9, e9, h⟩
    · omega
    · have e9 : a9 = B (t + 24) k.toNat := e9
      rcases h with ⟨c3, e⟩ | ⟨c3, e⟩ <;> omega
theorem K_keyTop {t k : Nat} {z : Int} {B : St} (hk : k < 4) (h0 : 0 ≤ B (t + 25) k) (h : q_X6_topOf (t + 22) (k : Int) B z) : (B (t + 25) k = 0 ∧ z = -1) ∨ (0 < B (t + 25) k ∧ z = B (t + (27 + k)) (B (t + 25) k - 1).toNat) := by
  rcases (h.1 : tr_r_X6_topOf (t + 22) (k : Int) B z) with ⟨c, -⟩ | ⟨_, h⟩
  · omega
  rcases h with ⟨c, -⟩ | ⟨_, a3, e3, a4, h4, hz⟩
  · omega
  rw [Int.toNat_natCast] at e3
  have e3 : a3 = B (t + 25) k := e3
  by_cases c : B (t + 25) k = 0
  · refine Or.inl ⟨c, ?_⟩
    rcases (h4.1 : tr_r_X6_inRow (t + 22) (k : Int) (a3 - 1) B a4) with ⟨c1, e⟩ | ⟨_, h⟩
    · rw [hz, e]
    rcases h with ⟨_, e⟩ | ⟨_, h⟩
    · rw [hz, e]
    rcases h with ⟨_, e⟩ | ⟨c3, -⟩
    · rw [hz, e]
    · omega
  · obtain ⟨n, en⟩ : ∃ n : Nat, a3 - 1 = (n : Int) := ⟨(a3 - 1).toNat, by omega⟩
    rw [en] at h4
    rcases K_inRow hk h4 with ⟨g1, g2⟩ | ⟨g1, _⟩
    · exact Or.inr ⟨by omega, by rw [hz, g2, show (B (t + 25) k - 1).toNat = n by omega]⟩
    · omega
theorem M_top {b k : Nat} {z : Int} {A T : St} (hb : A 0 12 = (b : Int)) (hK : MKy b A T) (hk : (k : Int) < T 1 2) (h0 : 0 ≤ T 25 k) (h : q_X12_topOf (k : Int) A z) : (T 25 k = 0 ∧ z = -1) ∨ (0 < T 25 k ∧ z = T (27 + k) (T 25 k - 1).toNat) := by
  have x := hK.1 k hk
  obtain ⟨_, _, z4, e4, h⟩ := (h.1 : tr_r_X12_topOf (k : Int) A z)
  rw [hb, show (4 * (b : Int) + (k : Int)).toNat = 4 * b + k by omega, x.2.1] at e4
  rcases h with ⟨c, _, _, _, _, z12, e12, z13, e13, hz⟩ | ⟨c, hz⟩
  · rw [hb, show (4 * (b : Int) + (k : Int)).toNat = 4 * b + k by omega, x.2.1] at e12
    rw [hb, show (40 * (b : Int) + 10 * (k : Int) + z12 - 1).toNat = 40 * b + 10 * k + (T 25 k - 1).toNat by omega, x.2.2 _ (by omega)] at e13
    exact Or.inr ⟨by omega, by rw [hz, e13]⟩
  · exact Or.inl ⟨by omega, hz⟩
/-- a key opens -/
theorem open_no {A u : St} {z : Int} (h : d_X12_open_2 z u (-1) A) : z = -1 ∧ sM A u := by
  obtain ⟨_, _, h⟩ := (h : tr_d_X12_open_2 z u (-1) A)
  rcases h with ⟨c, -⟩ | ⟨_, z23, A24, hr, hz, hu⟩
  · exact absurd rfl c
  · rw [hz, hu]
    exact ⟨hr.2.2.2, sM.fr hr.2.2.1 rfl rfl rfl rfl⟩
theorem opened_eq {t b p k : Nat} {B A u1 A12 : St} {z1 y11 : Int} (hI : IM A) (h : ACT b A (tw t B)) (hp : (p : Int) < B (t + 1) 3) (hk : (k : Int) < B (t + 1) 2) (h1 : q_X9_openWith t (p : Int) (k : Int) B z1 u1) (ho : q_X12_opened (p : Int) (k : Int) A y11 A12) : z1 = y11 ∧ AC b A12 (tw t u1) := by
  obtain ⟨l0, l1, l2, l3⟩ := h.lim hI
  have l1 : B (t + 1) 1 ≤ 10 := l1
  have l2 : B (t + 1) 2 ≤ 4 := l2
  have hv := h.2.2.2.2
  have no : ∀ A', sM A A' → sT (tw t B) (tw t u1) → z1 = -1 → y11 = -1 → A12 = A' → z1 = y11 ∧ AC b A12 (tw t u1) := fun A' g1 g2 g3 g4 g5 => ⟨g3.trans g4.symm, by rw [g5]; exact h.2.2.cg l2 g2 g1⟩
  obtain ⟨a1, ha1, h1⟩ := (h1.1 : tr_r_X9_openWith t (p : Int) (k : Int) B z1 u1)
  have kh := K_holds ha1
  rw [Int.toNat_natCast] at kh
  have x := h.2.2.1.1 k hk
  have x13 : A 13 (4 * b + k) = B (t + 24) k := x.1
  have x14 : A 14 (4 * b + k) = B (t + 25) k := x.2.1
  have kv := hv.2.2.2.1 k hk
  have v25 : 0 ≤ B (t + 25) k ∧ B (t + 25) k ≤ 6 := kv.1
  obtain ⟨w1, hw1, _, _, w7, e7, ho⟩ := (ho.1 : tr_r_X12_opened (p : Int) (k : Int) A y11 A12)
  rw [h.1, show (4 * (b : Int) + (k : Int)).toNat = 4 * b + k by omega, x13] at e7
  have mt : (B (t + 25) k = 0 ∧ w1 = -1) ∨ (0 < B (t + 25) k ∧ w1 = B (t + (27 + k)) (B (t + 25) k - 1).toNat) := M_top h.1 h.2.2.1 hk v25.1 hw1
  rcases ho with ⟨c4, hz2, hu2⟩ | ⟨c4, ho⟩
  · rcases h1 with ⟨c, -⟩ | ⟨c, hz, hu⟩
    · omega
    · exact no A sM.rf (by rw [hu]; exact sT.rf) hz hz2 hu2
  rcases h1 with ⟨c, a5, h5, h1⟩ | ⟨c, -⟩
  case inr => (clear ho; omega)
  have kt := K_keyTop (by omega) v25.1 h5
  rcases ho with ⟨c5, hz2, hu2⟩ | ⟨c5, w10, hw10, w13, hw13, ho⟩
  · rcases h1 with ⟨_, hz, hu⟩ | ⟨c6, -⟩
    · exact no A sM.rf (by rw [hu]; exact sT.rf) hz hz2 hu2
    · rcases mt with g | g <;> rcases kt with g2 | g2 <;> omega
  have n0 : 0 < B (t + 25) k := by rcases mt with g | g <;> omega
  have e5 : a5 = w1 := by rcases mt with g | g <;> rcases kt with g2 | g2 <;> omega
  have vr : 0 ≤ B (t + (27 + k)) (B (t + 25) k - 1).toNat ∧ B (t + (27 + k)) (B (t + 25) k - 1).toNat < B (t + 1) 1 := kv.2.1 _ (by show (((B (t + 25) k - 1).toNat : Nat) : Int) < B (t + 25) k; omega)
  rcases h1 with ⟨c6, -⟩ | ⟨_, a9, e9, a10, h10, h1⟩
  · rcases mt with g | g <;> omega
  obtain ⟨d, ed⟩ : ∃ d : Nat, w1 = (d : Int) := ⟨w1.toNat, by rcases mt with g | g <;> omega⟩
  have hd : (d : Int) < B (t + 1) 1 := by rcases mt with g | g <;> omega
  rw [Int.toNat_natCast] at e9
  have e9 : a9 = B (t + 23) p := e9
  have es : w10 = B (t + 23) p := M_spotOf h.1 h.2.2.2.1 hp hw10
  rw [e5, ed] at h10
  rw [ed] at hw13
  have k10 := K_isAt h10
  rw [Int.toNat_natCast] at k10
  have m13 : (w13 = 1 ↔ B (t + 8) d = w10 ∨ B (t + 9) d = w10) ∧ (w13 = 0 ∨ w13 = 1) := M_isAt h hd hw13
  rw [e9] at k10
  rw [es] at m13
  rcases h1 with ⟨c7, a14, e14, A15, e15, hz, hu⟩ | ⟨c7, hz, hu⟩
  · rcases ho with ⟨_, _, _, w20, e20, hz2, hu2⟩ | ⟨c8, -⟩
    · rw [Int.toNat_natCast] at e14 e15
      have e14 : a14 = B (t + 25) k := e14
      have e15 : A15 = stA B (t + 25) k (a14 - 1) := e15
      rw [h.1, show (4 * (b : Int) + (k : Int)).toNat = 4 * b + k by omega] at e20 hu2
      rw [x14] at e20
      refine ⟨by rw [hz, hz2, e5], ?_⟩
      rw [hu2, hu, e15, tw_st, e20, e14]
      exact AC_pop h.2.2 hk ⟨by omega, by show B (t + 25) k - 1 ≤ B (t + 25) k; omega⟩
    · omega
  · rcases ho with ⟨c8, -⟩ | ⟨_, hz2, hu2⟩
    · omega
    · exact no A sM.rf (by rw [hu]; exact sT.rf) hz hz2 hu2
theorem open_eq {t b : Nat} {B A u1 u2 : St} {x1 x2 z1 z2 : Int} (hT : isT t) (hI : IM A) (h : ACT b A (tw t B)) (qq1 : q_X9_openWith t x1 x2 B z1 u1) (qq2 : q_X12_open x1 x2 A z2 u2) : z1 = z2 ∧ AC b u2 (tw t u1) := by
  have l2 : B (t + 1) 2 ≤ 4 := (h.lim hI).2.2.1
  have q1 := qq1
  have no : sT (tw t B) (tw t u1) → z1 = -1 → d_X12_open_2 z2 u2 (-1) A → z1 = z2 ∧ AC b u2 (tw t u1) := fun g2 g3 g4 => ⟨g3.trans (open_no g4).1.symm, h.2.2.cg l2 g2 (open_no g4).2⟩
  obtain ⟨a1, ha1, h1⟩ := (qq1.1 : tr_r_X9_openWith t x1 x2 B z1 u1)
  have kh := K_holds ha1
  obtain ⟨y1, hy1, h2⟩ := (qq2.1 : tr_r_X12_open x1 x2 A z2 u2)
  have m3 : (y1 = 1 ↔ 0 ≤ x1 ∧ x1 < B (t + 1) 3) ∧ (y1 = 0 ∨ y1 = 1) := M_isPerson hI h hy1
  rcases h2 with ⟨c2, h2⟩ | ⟨c2, y7, hy7, h2⟩
  · rcases h1 with ⟨c, -⟩ | ⟨c, hz, hu⟩
    · omega
    · exact no (by rw [hu]; exact sT.rf) hz h2
  have m2 : (y7 = 1 ↔ 0 ≤ x2 ∧ x2 < B (t + 1) 2) ∧ (y7 = 0 ∨ y7 = 1) := M_isKey hI h hy7
  rcases h2 with ⟨c3, h2⟩ | ⟨c3, y11, A12, ho, h2⟩
  · rcases h1 with ⟨c, -⟩ | ⟨c, hz, hu⟩
    · omega
    · exact no (by rw [hu]; exact sT.rf) hz h2
  obtain ⟨p, rfl⟩ : ∃ p : Nat, x1 = (p : Int) := ⟨x1.toNat, by omega⟩
  obtain ⟨k, rfl⟩ : ∃ k : Nat, x2 = (k : Int) := ⟨x2.toNat, by (first | omega | (clear h1; omega) | (clear h2; omega) | (clear hg'; omega) | (clear h1 h2; omega) | (clear h1 hg'; omega))⟩
  obtain ⟨e, ac⟩ := opened_eq hI h (by (first | omega | (clear h1; omega) | (clear h2; omega) | (clear hg'; omega) | (clear h1 h2; omega) | (clear h1 hg'; omega))) (by (first | omega | (clear h1; omega) | (clear h2; omega) | (clear hg'; omega) | (clear h1 h2; omega) | (clear h1 hg'; omega))) q1 ho
  have s1 : tw t u1 1 2 ≤ 4 := by
    have r1 : u1 (t + 1) 2 = B (t + 1) 2 := by
      rcases hT with e0 | e0
      · rw [e0]; exact q1.2.2.1 52 2 rfl rfl
      · rw [e0]; exact q1.2.2.1 83 2 rfl rfl
    show u1 (t + 1) 2 ≤ 4
    rw [r1]
    exact l2
  obtain ⟨_, _, h2⟩ := (h2 : tr_d_X12_open_2 z2 u2 y11 A12)
  rcases h2 with ⟨_, hz3, hu3⟩ | ⟨c13, y23, A24, hr, hz3, hu3⟩
  · rw [hu3]
    exact ⟨e.trans hz3.symm, ac⟩
  · rw [hu3]
    exact ⟨by rw [e, c13, hz3, hr.2.2.2], ac.cg s1 sT.rf (sM.fr hr.2.2.1 rfl rfl rfl rfl)⟩
