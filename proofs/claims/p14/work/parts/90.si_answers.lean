/-! What the calls that only tell answer: has, door, key, in. -/
theorem key_eq {x1 x2 z1 z2 : Int} {B A : St} (hIK : IK B) (hIM : IM A) (hp : PSs B A) (ha : ACS B A) (h1 : r_X11_key x1 x2 B z1) (h2 : r_X12_key_ x1 x2 A z2) : z1 = z2 := by
  have hA := ha.act hIM hp
  have l2 := (hA.lim hIM).2.2.1
  have hv := hA.2.2.2.2
  obtain ⟨b, hb⟩ : ∃ b : Nat, (A 0 12).toNat = b := ⟨_, rfl⟩
  rw [hb] at hA
  obtain ⟨t, ht, z3, hi, h1⟩ := (h1 : tr_r_X11_key x1 x2 B z1)
  rw [← ht] at hA l2 hv
  obtain ⟨y1, hy1, h2⟩ := (h2 : tr_r_X12_key_ x1 x2 A z2)
  have ki := K_there2 hi
  have mi : (y1 = 1 ↔ 0 ≤ x1 ∧ x1 < B (t + 1) 2) ∧ (y1 = 0 ∨ y1 = 1) := M_isKey hIM hA hy1
  have l2 : B (t + 1) 2 ≤ 4 := l2
  rcases h1 with ⟨c, h1⟩ | ⟨c, hz⟩
  case inr =>
    rcases h2 with ⟨c2, -⟩ | ⟨_, hz2⟩
    · omega
    · rw [hz, hz2]
  rcases h2 with ⟨_, h2⟩ | ⟨c2, -⟩
  case inr => (first | omega | (clear h1; omega) | (clear h2; omega) | (clear h1 h2; omega))
  obtain ⟨k, rfl⟩ : ∃ k : Nat, x1 = (k : Int) := ⟨x1.toNat, by (first | omega | (clear h1; omega) | (clear h2; omega) | (clear h1 h2; omega))⟩
  have hk : (k : Int) < B (t + 1) 2 := by omega
  have n4 : (4 * (b : Int) + (k : Int)).toNat = 4 * b + k := by omega
  have x := hA.2.2.1.1 k hk
  have x13 : A 13 (4 * b + k) = B (t + 24) k := x.1
  have x14 : A 14 (4 * b + k) = B (t + 25) k := x.2.1
  have v25 : 0 ≤ B (t + 25) k ∧ B (t + 25) k ≤ 6 := (hv.2.2.2.1 k hk).1
  have m : (x2 = 0 → z2 = B (t + 24) k) ∧ (x2 = 1 → z2 = B (t + 25) k) ∧ (x2 = 2 → (B (t + 25) k = 0 ∧ z2 = -1) ∨ (0 < B (t + 25) k ∧ z2 = B (t + (27 + k)) (B (t + 25) k - 1).toNat)) ∧ (x2 < 0 ∨ 2 < x2 → z2 = -1) := by
    rcases h2 with ⟨d0, h2⟩ | ⟨d0, _, _, w, ew, hz2⟩
    · rcases h2 with ⟨d1, h2⟩ | ⟨d1, _, _, w, ew, hz2⟩
      · rcases h2 with ⟨d2, hz2⟩ | ⟨d2, w, hw, hz2⟩
        · exact ⟨fun g => absurd g d0, fun g => absurd g d1, fun g => absurd g d2, fun _ => hz2⟩
        · have mt : (B (t + 25) k = 0 ∧ w = -1) ∨ (0 < B (t + 25) k ∧ w = B (t + (27 + k)) (B (t + 25) k - 1).toNat) := M_top hA.1 hA.2.2.1 hk v25.1 hw
          rw [← hz2] at mt
          exact ⟨fun g => absurd g d0, fun g => absurd g d1, fun _ => mt, fun g => by omega⟩
      · rw [hA.1, n4, x14] at ew
        exact ⟨fun g => absurd g d0, fun _ => by rw [hz2, ew], fun g => by omega, fun g => by omega⟩
    · rw [hA.1, n4, x13] at ew
      exact ⟨fun _ => by rw [hz2, ew], fun g => by omega, fun g => by omega, fun g => by omega⟩
  rcases h1 with ⟨c3, hz⟩ | ⟨c3, z8, e8, hz⟩ | ⟨c3, z9, e9, hz⟩ | ⟨c3, z10, h10, hz⟩
  · rw [hz, m.2.2.2 c3]
  · rw [Int.toNat_natCast] at e8
    have e8 : z8 = B (t + 24) k := e8
    rw [hz, e8, m.1 c3]
  · rw [Int.toNat_natCast] at e9
    have e9 : z9 = B (t + 25) k := e9
    rw [hz, e9, m.2.1 c3]
  · have kt := K_keyTop (by omega) v25.1 h10
    rw [hz]
    rcases kt with ⟨g1, g2⟩ | ⟨g1, g2⟩
    · rcases m.2.2.1 c3 with ⟨g3, g4⟩ | ⟨g3, _⟩
      · rw [g2, g4]
      · omega
    · rcases m.2.2.1 c3 with ⟨g3, _⟩ | ⟨_, g4⟩
      · omega
      · rw [g2, g4]
theorem in_eq {x1 x2 z1 z2 : Int} {B A : St} (hIK : IK B) (hIM : IM A) (hp : PSs B A) (ha : ACS B A) (h1 : r_X11_in x1 x2 B z1) (h2 : r_X12_in x1 x2 A z2) : z1 = z2 := by
  have hA := ha.act hIM hp
  have l2 := (hA.lim hIM).2.2.1
  have hv := hA.2.2.2.2
  obtain ⟨b, hb⟩ : ∃ b : Nat, (A 0 12).toNat = b := ⟨_, rfl⟩
  rw [hb] at hA
  obtain ⟨t, ht, z3, hi, h1⟩ := (h1 : tr_r_X11_in x1 x2 B z1)
  rw [← ht] at hA l2 hv
  obtain ⟨y1, hy1, h2⟩ := (h2 : tr_r_X12_in x1 x2 A z2)
  have ki := K_there2 hi
  have mi : (y1 = 1 ↔ 0 ≤ x1 ∧ x1 < B (t + 1) 2) ∧ (y1 = 0 ∨ y1 = 1) := M_isKey hIM hA hy1
  have l2 : B (t + 1) 2 ≤ 4 := l2
  rcases h1 with ⟨c, z7, h7, hz⟩ | ⟨c, hz⟩
  case inr =>
    rcases h2 with ⟨_, hz2⟩ | ⟨c2, -⟩
    · rw [hz, hz2]
    · omega
  rcases h2 with ⟨c2, -⟩ | ⟨_, _, _, w8, e8, w9, h9, h2⟩
  · omega
  obtain ⟨k, rfl⟩ : ∃ k : Nat, x1 = (k : Int) := ⟨x1.toNat, by omega⟩
  have hk : (k : Int) < B (t + 1) 2 := by omega
  have n4 : (4 * (b : Int) + (k : Int)).toNat = 4 * b + k := by omega
  have x := hA.2.2.1.1 k hk
  have x14 : A 14 (4 * b + k) = B (t + 25) k := x.2.1
  have v25 : 0 ≤ B (t + 25) k ∧ B (t + 25) k ≤ 6 := (hv.2.2.2.1 k hk).1
  rw [hA.1, n4, x14] at e8
  have q9 := h9.2
  rw [e8] at q9
  by_cases cx : 0 ≤ x2
  · obtain ⟨j, rfl⟩ : ∃ j : Nat, x2 = (j : Int) := ⟨x2.toNat, by omega⟩
    rcases K_inRow (by omega) h7 with ⟨g1, g2⟩ | ⟨g1, g2⟩
    · rcases h2 with ⟨_, _, _, w16, e16, hz2⟩ | ⟨c3, -⟩
      · rw [hA.1, show (40 * (b : Int) + 10 * (k : Int) + (j : Int)).toNat = 40 * b + 10 * k + j by omega] at e16
        have y := x.2.2 j g1
        have y : A 15 (40 * b + 10 * k + j) = B (t + (27 + k)) j := y
        rw [hz, g2, hz2, e16, y]
      · omega
    · rcases h2 with ⟨c3, -⟩ | ⟨_, hz2⟩
      · omega
      · rw [hz, g2, hz2]
  · have e7 : z7 = -1 := by
      rcases (h7.1 : tr_r_X6_inRow (t + 22) (k : Int) x2 B z7) with ⟨_, e⟩ | ⟨_, h⟩
      · exact e
      rcases h with ⟨_, e⟩ | ⟨_, h⟩
      · exact e
      rcases h with ⟨_, e⟩ | ⟨c3, -⟩
      · exact e
      · omega
    rcases h2 with ⟨c3, -⟩ | ⟨_, hz2⟩
    · omega
    · rw [hz, e7, hz2]
theorem M_deadAllL {b : Nat} {A T : St} {z : Int} {p : Nat → Bool} (hb : A 0 12 = (b : Int)) (h4 : A 4 b = T 1 1) (h10 : T 1 1 ≤ 10) (h11 : A 11 b = T 1 2) (hK : MKy b A T) (hL : MLs b A T) (hp : ∀ d : Nat, (d : Int) < T 1 1 → (p d = true ↔ ddT T d)) : ∀ (nn k : Nat) (m : Int), m = cd p k → (k : Int) ≤ T 1 1 → d_X12_has_1 A z nn (k : Int) m → z = cd p (T 1 1).toNat := by
  intro nn
  induction nn with
  | zero => intro k m _ _ h; exact h.elim
  | succ nn ih =>
    intro k m hm hk h
    obtain ⟨_, _, z11, e11, h⟩ := (h : tr_d_X12_has_1 A z (fun z1 z2 => d_X12_has_1 A z nn z1 z2) (k : Int) m)
    rw [hb, Int.toNat_natCast, h4] at e11
    rcases h with ⟨c, hz⟩ | ⟨c, z13, h13, h⟩
    · rw [hz, hm, show (T 1 1).toNat = k by omega]
    · have hd : (k : Int) < T 1 1 := by omega
      obtain ⟨r1, r2⟩ := M_isDead hb h11 hK hd hL h13
      have cb := cd_b (p := p) k
      have on : ∀ w : Int, (w = if p k = true then 1 else 0) → d_X12_has_2 (fun z1 z2 => d_X12_has_1 A z nn z1 z2) (k : Int) m z w → z = cd p (T 1 1).toNat := by
        intro w hw h
        obtain ⟨_, z22, e22, h⟩ := (h : tr_d_X12_has_2 (fun z1 z2 => d_X12_has_1 A z nn z1 z2) (k : Int) m z w)
        have w01 : 0 ≤ w ∧ w ≤ 1 := by rw [hw]; split <;> omega
        rw [oWrap_id ⟨by omega, by omega⟩] at e22
        refine ih (k + 1) z22 ?_ (by omega) (by rw [show ((k + 1 : Nat) : Int) = (k : Int) + 1 by omega]; exact h)
        rw [e22, hm, hw]
        rfl
      rcases h with ⟨c2, h⟩ | ⟨c2, h⟩
      · refine on 0 ?_ h
        rw [if_neg]
        intro g
        have := r1.mpr ((hp k hd).mp g)
        omega
      · refine on 1 ?_ h
        rw [if_pos]
        exact (hp k hd).mpr (r1.mp (by omega))
theorem has_eq {x1 z1 z2 : Int} {B A : St} (hIK : IK B) (hIM : IM A) (hp : PSs B A) (ha : ACS B A) (h1 : r_X11_has x1 B z1) (h2 : r_X12_has x1 A z2) : z1 = z2 := by
  have hA := ha.act hIM hp
  obtain ⟨b, hb⟩ : ∃ b : Nat, (A 0 12).toNat = b := ⟨_, rfl⟩
  rw [hb] at hA
  obtain ⟨t, ht⟩ : ∃ t : Nat, t = 51 + 31 * (B 0 9).toNat := ⟨_, rfl⟩
  rw [← ht] at hA
  have l := hA.lim hIM
  have l1 : B (t + 1) 1 ≤ 10 := l.2.1
  have l2 : B (t + 1) 2 ≤ 4 := l.2.2.1
  have hv := hA.2.2.2.2
  have hv0 : 0 ≤ B (t + 1) 1 := hv.1.2.1
  have cn := hA.cnt
  have cm : MCn b A (tw t B) := by
    obtain ⟨_, ⟨_, mc, _⟩, _⟩ := hA
    exact mc
  have c4 : A 19 b = B (t + 1) 4 := by
    obtain ⟨_, ⟨⟨_, _, _, _, k4⟩, _⟩, _⟩ := hA
    exact k4.1
  have ls := hA.st.2.2
  have c0 : A 2 b = B (t + 1) 0 := cn.1
  have c1 : A 4 b = B (t + 1) 1 := cn.2.1
  have c2 : A 11 b = B (t + 1) 2 := cn.2.2.1
  have c3 : A 16 b = B (t + 1) 3 := cn.2.2.2
  have c5 : A 22 b = B (t + 1) 5 := cm.1
  have c6 : A 25 b = B (t + 1) 6 := cm.2.1
  have c7 : A 29 b = B (t + 1) 7 := cm.2.2
  rcases (h1 : tr_r_X11_has x1 B z1) with ⟨n8, h1⟩ | ⟨n8, t9, ht9, m, hm, w, hw, hz⟩
  · rcases h1 with ⟨n9, h1⟩ | ⟨n9, t9, ht9, m, hm, w, hw, hz⟩
    · rcases h1 with ⟨s0, hz⟩ | ⟨s0, h1⟩
      · rcases (h2 : tr_r_X12_has x1 A z2) with ⟨_, hz2⟩ | ⟨g, _⟩ | ⟨g, _⟩ | ⟨g, _⟩ | ⟨g, _⟩ | ⟨g, _⟩ | ⟨g, _⟩ | ⟨g, _⟩ | ⟨g, _⟩ | ⟨g, _⟩ | ⟨g, _⟩
        · rw [hz, hz2]
        all_goals omega
      · rcases h1 with ⟨s8, hz⟩ | ⟨s8, t6, ht6, w, ew, hz⟩
        · rcases (h2 : tr_r_X12_has x1 A z2) with ⟨_, hz2⟩ | ⟨g, _⟩ | ⟨g, _⟩ | ⟨g, _⟩ | ⟨g, _⟩ | ⟨g, _⟩ | ⟨g, _⟩ | ⟨g, _⟩ | ⟨g, _⟩ | ⟨g, _⟩ | ⟨g, _⟩
          · rw [hz, hz2]
          all_goals omega
        · rw [← ht] at ht6
          rw [ht6] at ew
          rcases (h2 : tr_r_X12_has x1 A z2) with ⟨g, _⟩ | ⟨g, v, ev, hz2⟩ | ⟨g, v, ev, hz2⟩ | ⟨g, v, ev, hz2⟩ | ⟨g, v, ev, hz2⟩ | ⟨g, v, ev, hz2⟩ | ⟨g, v, ev, hz2⟩ | ⟨g, v, ev, hz2⟩ | ⟨g, v, ev, hz2⟩ | ⟨g, _⟩ | ⟨g, _⟩
          · omega
          · subst g
            rw [hA.1, Int.toNat_natCast, c0] at ev
            rw [hz, hz2, ew, ev]
            rfl
          · subst g
            rw [hA.1, Int.toNat_natCast, c1] at ev
            rw [hz, hz2, ew, ev]
            rfl
          · subst g
            rw [hA.1, Int.toNat_natCast, c2] at ev
            rw [hz, hz2, ew, ev]
            rfl
          · subst g
            rw [hA.1, Int.toNat_natCast, c3] at ev
            rw [hz, hz2, ew, ev]
            rfl
          · subst g
            rw [hA.1, Int.toNat_natCast, c4] at ev
            rw [hz, hz2, ew, ev]
            rfl
          · subst g
            rw [hA.1, Int.toNat_natCast, c5] at ev
            rw [hz, hz2, ew, ev]
            rfl
          · subst g
            rw [hA.1, Int.toNat_natCast, c6] at ev
            rw [hz, hz2, ew, ev]
            rfl
          · subst g
            rw [hA.1, Int.toNat_natCast, c7] at ev
            rw [hz, hz2, ew, ev]
            rfl
          · omega
          · omega
    · rw [← ht] at ht9
      subst ht9
      rcases (h2 : tr_r_X12_has x1 A z2) with ⟨g, _⟩ | ⟨g, _⟩ | ⟨g, _⟩ | ⟨g, _⟩ | ⟨g, _⟩ | ⟨g, _⟩ | ⟨g, _⟩ | ⟨g, _⟩ | ⟨g, _⟩ | ⟨g, _⟩ | ⟨_, nn, h2⟩
      · omega
      · omega
      · omega
      · omega
      · omega
      · omega
      · omega
      · omega
      · omega
      · omega
      · obtain ⟨q1, q2⟩ := K_deadMask (hv.rb l1) l2 ls.1 hm
        have e : m = ((m.toNat : Nat) : Int) := by omega
        rw [e] at hw
        have k1 := K_bits (by omega) hw
        have r := M_deadAllL (p := fun k => m.toNat.testBit k) hA.1 cn.2.1 l1 cn.2.2.1 hA.2.2.1 ls (fun k hk => q2 k (by have hk : (k : Int) < B (t9 + 1) 1 := hk; omega)) nn 0 0 rfl hv0 h2
        have r : z2 = cd (fun k => m.toNat.testBit k) (B (t9 + 1) 1).toNat := r
        have c := cnt_D hv0 l1 q1 q2 (fun d _ g => shT_lt hA (ddT_sh g))
        rw [hz, k1, r, c]
  · rw [← ht] at ht9
    subst ht9
    rcases (h2 : tr_r_X12_has x1 A z2) with ⟨g, _⟩ | ⟨g, _⟩ | ⟨g, _⟩ | ⟨g, _⟩ | ⟨g, _⟩ | ⟨g, _⟩ | ⟨g, _⟩ | ⟨g, _⟩ | ⟨g, _⟩ | ⟨_, v, hv2, hz2⟩ | ⟨g, _⟩
    · omega
    · omega
    · omega
    · omega
    · omega
    · omega
    · omega
    · omega
    · omega
    · rw [hz, hz2]; exact closed_eq hIM hA hm hw hv2
    · omega
/-- a door -/
theorem K_rowsWithL {t d : Nat} {z : Int} {B : St} {p : Nat → Bool} (h4 : B (t + 1) 2 ≤ 4) (h6 : ∀ k, k < 4 → B (t + 25) k ≤ 6) (hp : ∀ k : Nat, (k : Int) < B (t + 1) 2 → (p k = true ↔ inR (tw t B) k d)) : ∀ (nn k : Nat) (m : Int), m = cd p k → (k : Int) ≤ B (t + 1) 2 → d_X9_rowsWith_1 t (d : Int) B z nn (k : Int) m → z = cd p (B (t + 1) 2).toNat := by
  intro nn
  induction nn with
  | zero => intro k m _ _ h; exact h.elim
  | succ nn ih =>
    intro k m hm hk h
    obtain ⟨_, _, z10, e10, h⟩ := (h : tr_d_X9_rowsWith_1 t (d : Int) B z (fun z1 z2 => d_X9_rowsWith_1 t (d : Int) B z nn z1 z2) (k : Int) m)
    have e10 : z10 = B (t + 1) 2 := e10
    have cb := cd_b (p := p) k
    rcases h with ⟨c, hz⟩ | ⟨c, z12, h12, h⟩
    · rw [hz, hm, show (B (t + 1) 2).toNat = k by omega]
    · have hk2 : (k : Int) < B (t + 1) 2 := by omega
      have kp := K_placeIn (by omega) (h6 k (by omega)) h12
      rcases h with ⟨c2, h⟩ | ⟨c2, z17, e17, h⟩
      · obtain ⟨_, h⟩ := (h : tr_d_X9_rowsWith_2 _ (k : Int) z m)
        refine ih (k + 1) m ?_ (by omega) (by rw [show ((k + 1 : Nat) : Int) = (k : Int) + 1 by omega]; exact h)
        have e : cd p (k + 1) = cd p k + (if p k = true then 1 else 0) := rfl
        rw [e, hm, if_neg, Int.add_zero]
        intro g
        have g := (hp k hk2).mp g
        rcases kp with x | x
        · exact x.2 g
        · exact x.1 c2
      · obtain ⟨_, h⟩ := (h : tr_d_X9_rowsWith_2 _ (k : Int) z z17)
        rw [oWrap_id ⟨by omega, by omega⟩] at e17
        refine ih (k + 1) z17 ?_ (by omega) (by rw [show ((k + 1 : Nat) : Int) = (k : Int) + 1 by omega]; exact h)
        have e : cd p (k + 1) = cd p k + (if p k = true then 1 else 0) := rfl
        rw [e17, e, hm, if_pos]
        refine (hp k hk2).mpr ?_
        rcases kp with x | x
        · exact absurd x.1 c2
        · exact x.2
/-- the reference's answer for a door, its rows counted -/
theorem M_doorL {b d : Nat} {x2 z : Int} {A T : St} {p : Nat → Bool} (hb : A 0 12 = (b : Int)) (h11 : A 11 b = T 1 2) (h4 : T 1 2 ≤ 4) (hK : MKy b A T) (hp : ∀ k : Nat, (k : Int) < T 1 2 → (p k = true ↔ inR T k d)) : ∀ (nn k : Nat) (m : Int), m = cd p k → (k : Int) ≤ T 1 2 → d_X12_door__1 (d : Int) x2 A z nn (k : Int) m → tr_d_X12_door__1 (d : Int) x2 A z (fun _ _ => False) (T 1 2) (cd p (T 1 2).toNat) := by
  intro nn
  induction nn with
  | zero => intro k m _ _ h; exact h.elim
  | succ nn ih =>
    intro k m hm hk h
    have cb := cd_b (p := p) k
    obtain ⟨f1, f2, z15, e15, h⟩ := (h : tr_d_X12_door__1 (d : Int) x2 A z (fun z5 z6 => d_X12_door__1 (d : Int) x2 A z nn z5 z6) (k : Int) m)
    have e15' := e15
    rw [hb, Int.toNat_natCast, h11] at e15
    rcases h with ⟨c, h⟩ | ⟨c, z48, h48, h⟩
    · have ek : T 1 2 = (k : Int) := by omega
      have en : (T 1 2).toNat = k := by omega
      rw [en, ← hm, ek]
      exact ⟨f1, f2, z15, e15', Or.inl ⟨c, h⟩⟩
    · have hk2 : (k : Int) < T 1 2 := by omega
      obtain ⟨r1, r2⟩ := M_inRow hb hk2 hK h48
      have on : ∀ w : Int, (w = if p k = true then 1 else 0) → d_X12_door__2 (fun z5 z6 => d_X12_door__1 (d : Int) x2 A z nn z5 z6) (k : Int) m z w → tr_d_X12_door__1 (d : Int) x2 A z (fun _ _ => False) (T 1 2) (cd p (T 1 2).toNat) := by
        intro w hw h
        obtain ⟨_, z57, e57, h⟩ := (h : tr_d_X12_door__2 (fun z5 z6 => d_X12_door__1 (d : Int) x2 A z nn z5 z6) (k : Int) m z w)
        have w01 : 0 ≤ w ∧ w ≤ 1 := by rw [hw]; split <;> omega
        rw [oWrap_id ⟨by omega, by omega⟩] at e57
        refine ih (k + 1) z57 ?_ (by omega) (by rw [show ((k + 1 : Nat) : Int) = (k : Int) + 1 by omega]; exact h)
        rw [e57, hm, hw]
        rfl
      rcases h with ⟨c2, h⟩ | ⟨c2, h⟩
      · refine on 0 ?_ h
        rw [if_neg]
        intro g
        have := r1.mpr ((hp k hk2).mp g)
        omega
      · refine on 1 ?_ h
        rw [if_pos]
        exact (hp k hk2).mpr (r1.mp (by omega))
theorem bit_01 {x : Int} {d : Nat} {P : Prop} (hx : 0 ≤ x ∧ x < 1024) (hd : d < 10) (h : x.toNat.testBit d = true ↔ P) : (P → oAnd (oShr x (d : Int)) 1 = 1) ∧ (¬ P → oAnd (oShr x (d : Int)) 1 = 0) := by
  have e := bit_tb ⟨x.toNat, by omega⟩ ⟨d, hd⟩
  simp only [show ((x.toNat : Nat) : Int) = x by omega] at e
  constructor
  · intro g
    rw [e, if_pos (h.mpr g)]
  · intro g
    rw [e, if_neg (fun c => g (h.mp c))]
theorem door_eq {x1 x2 z1 z2 : Int} {B A : St} (hIK : IK B) (hIM : IM A) (hp : PSs B A) (ha : ACS B A) (h1 : r_X11_door x1 x2 B z1) (h2 : r_X12_door_ x1 x2 A z2) : z1 = z2 := by
  classical
  have hA := ha.act hIM hp
  obtain ⟨b, hb⟩ : ∃ b : Nat, (A 0 12).toNat = b := ⟨_, rfl⟩
  rw [hb] at hA
  obtain ⟨t, ht, z3, hi, h1⟩ := (h1 : tr_r_X11_door x1 x2 B z1)
  rw [← ht] at hA
  obtain ⟨y1, hy1, h2⟩ := (h2 : tr_r_X12_door_ x1 x2 A z2)
  have l := hA.lim hIM
  have l1 : B (t + 1) 1 ≤ 10 := l.2.1
  have l2 : B (t + 1) 2 ≤ 4 := l.2.2.1
  have hv := hA.2.2.2.2
  have rb := hv.rb l1
  obtain ⟨nb, dr, ls⟩ := hA.st
  have h15 : 0 ≤ B t 15 ∧ B t 15 < 1024 := ls.1
  have k2 : 0 ≤ B (t + 1) 2 := hv.1.2.2.1
  have ki := K_there1 hi
  have mi : (y1 = 1 ↔ 0 ≤ x1 ∧ x1 < B (t + 1) 1) ∧ (y1 = 0 ∨ y1 = 1) := M_isDoor hIM hA hy1
  rcases h1 with ⟨c, h1⟩ | ⟨c, hz⟩
  case inr =>
    rcases h2 with ⟨c2, -⟩ | ⟨_, hz2⟩
    · omega
    · rw [hz, hz2]
  rcases h2 with ⟨_, nn, h2⟩ | ⟨c2, -⟩
  case inr => (first | omega | (clear h1; omega) | (clear h2; omega) | (clear h1 h2; omega))
  obtain ⟨d, rfl⟩ : ∃ d : Nat, x1 = (d : Int) := ⟨x1.toNat, by (first | omega | (clear h1; omega) | (clear h2; omega) | (clear h1 h2; omega))⟩
  have hd : (d : Int) < B (t + 1) 1 := by omega
  have hd10 : d < 10 := by omega
  have n10 : (10 * (b : Int) + (d : Int)).toNat = 10 * b + d := by omega
  have m := M_doorL (p := fun k => decide (inR (tw t B) k d)) hA.1 hA.cnt.2.2.1 l2 hA.2.2.1 (fun k _ => decide_eq_true_iff) nn 0 0 rfl k2 h2
  obtain ⟨_, _, z15, e15, m⟩ := m
  rw [hA.1, Int.toNat_natCast, hA.cnt.2.2.1] at e15
  rcases m with ⟨_, m⟩ | ⟨c15, -⟩
  case inr => omega
  have drd := dr d hd
  have nbd : A 8 (10 * b + d) = 0 ↔ B (t + 10) d ≠ 0 := nb d hd
  have lsd := ls.2.1 d hd
  rcases h1 with ⟨c3, hz⟩ | ⟨c3, w, ew, hz⟩ | ⟨c3, w, ew, hz⟩ | ⟨c3, w, hw, h1⟩ | ⟨c3, w, ew, hz⟩ | ⟨c3, w, hw, w2, ew2, w3, ew3, hz⟩ | ⟨c3, w, hw, hz⟩ | ⟨c3, w2, ew2, w3, ew3, hz⟩ | ⟨c3, w, hw, w2, ew2, w3, ew3, hz⟩
  · rcases m with ⟨_, hz2⟩ | ⟨g, _⟩ | ⟨g, _⟩ | ⟨g, _⟩ | ⟨g, _⟩ | ⟨g, _⟩ | ⟨g, _⟩ | ⟨g, _⟩ | ⟨g, _⟩
    · rw [hz, hz2]
    all_goals omega
  · rcases m with ⟨g, _⟩ | ⟨_, _, _, v, ev, hz2⟩ | ⟨g, _⟩ | ⟨g, _⟩ | ⟨g, _⟩ | ⟨g, _⟩ | ⟨g, _⟩ | ⟨g, _⟩ | ⟨g, _⟩
    · omega
    · rw [hA.1, n10, drd.1] at ev
      rw [Int.toNat_natCast] at ew
      rw [hz, hz2, ew, ev]
      rfl
    all_goals omega
  · rcases m with ⟨g, _⟩ | ⟨g, _⟩ | ⟨_, _, _, v, ev, hz2⟩ | ⟨g, _⟩ | ⟨g, _⟩ | ⟨g, _⟩ | ⟨g, _⟩ | ⟨g, _⟩ | ⟨g, _⟩
    · omega
    · omega
    · rw [hA.1, n10, drd.2.1] at ev
      rw [Int.toNat_natCast] at ew
      rw [hz, hz2, ew, ev]
      rfl
    all_goals omega
  · have kb := K_isBox hw
    rw [Int.toNat_natCast] at kb
    rcases m with ⟨g, _⟩ | ⟨g, _⟩ | ⟨g, _⟩ | ⟨_, _, _, v, ev, m⟩ | ⟨g, _⟩ | ⟨g, _⟩ | ⟨g, _⟩ | ⟨g, _⟩ | ⟨g, _⟩
    · omega
    · omega
    · omega
    · rw [hA.1, n10] at ev
      rw [← ev] at nbd
      rcases h1 with ⟨c4, hz⟩ | ⟨c4, hz⟩
      · rcases m with ⟨_, hz2⟩ | ⟨c5, -⟩
        · rw [hz, hz2]
        · exact absurd (nbd.mpr (fun g => by omega)) c5
      · rcases m with ⟨c5, -⟩ | ⟨_, hz2⟩
        · exact absurd (nbd.mp c5) (by omega)
        · rw [hz, hz2]
    all_goals omega
  · rcases m with ⟨g, _⟩ | ⟨g, _⟩ | ⟨g, _⟩ | ⟨g, _⟩ | ⟨_, _, _, v, ev, hz2⟩ | ⟨g, _⟩ | ⟨g, _⟩ | ⟨g, _⟩ | ⟨g, _⟩
    · omega
    · omega
    · omega
    · omega
    · rw [hA.1, n10, drd.2.2] at ev
      rw [Int.toNat_natCast] at ew
      rw [hz, hz2, ew, ev]
      rfl
    all_goals omega
  · obtain ⟨q1, q2⟩ := K_shutMask rb l2 h15 hw
    have bb := bit_01 q1 hd10 (q2 d hd10)
    rw [← ew2, ← ew3] at bb
    rcases m with ⟨g, _⟩ | ⟨g, _⟩ | ⟨g, _⟩ | ⟨g, _⟩ | ⟨g, _⟩ | ⟨_, v, hv2, m⟩ | ⟨g, _⟩ | ⟨g, _⟩ | ⟨g, _⟩
    · omega
    · omega
    · omega
    · omega
    · omega
    · have ms := M_isShut hA.1 hA.cnt.2.2.1 hA.2.2.1 hd ls hv2
      rcases m with ⟨c4, hz2⟩ | ⟨c4, hz2⟩
      · rw [hz, hz2, bb.2 (fun g => by have := ms.1.mpr g; omega)]
      · rw [hz, hz2, bb.1 (ms.1.mp (by omega))]
    all_goals omega
  · rcases m with ⟨g, _⟩ | ⟨g, _⟩ | ⟨g, _⟩ | ⟨g, _⟩ | ⟨g, _⟩ | ⟨g, _⟩ | ⟨_, hz2⟩ | ⟨g, _⟩ | ⟨g, _⟩
    · omega
    · omega
    · omega
    · omega
    · omega
    · omega
    · obtain ⟨n2, hw⟩ := (hw.1 : tr_r_X9_rowsWith t (d : Int) B w)
      have r := K_rowsWithL (p := fun k => decide (inR (tw t B) k d)) l2 (fun k hk => (rb k hk).1.2) (fun k _ => decide_eq_true_iff) n2 0 0 rfl k2 hw
      rw [hz, hz2, r]
      rfl
    all_goals omega
  · have bb := bit_01 (P := (B t 15).toNat.testBit d = true) h15 hd10 Iff.rfl
    rw [← ew2, ← ew3] at bb
    rcases m with ⟨g, _⟩ | ⟨g, _⟩ | ⟨g, _⟩ | ⟨g, _⟩ | ⟨g, _⟩ | ⟨g, _⟩ | ⟨g, _⟩ | ⟨_, _, _, v, ev, m⟩ | ⟨g, _⟩
    · omega
    · omega
    · omega
    · omega
    · omega
    · omega
    · omega
    · rw [hA.1, n10] at ev
      rw [← ev] at lsd
      have lsd : v = 0 ↔ (B t 15).toNat.testBit d = false := lsd
      rcases m with ⟨c4, hz2⟩ | ⟨c4, hz2⟩
      · rw [hz, hz2, bb.2 (fun g => by rw [lsd.mp c4] at g; exact absurd g Bool.false_ne_true)]
      · rw [hz, hz2, bb.1 ?_]
        cases hc : (B t 15).toNat.testBit d with
        | true => rfl
        | false => exact absurd (lsd.mpr hc) c4
    · omega
  · obtain ⟨q1, q2⟩ := K_deadMask rb l2 h15 hw
    have bb := bit_01 q1 hd10 (q2 d hd10)
    rw [← ew2, ← ew3] at bb
    rcases m with ⟨g, _⟩ | ⟨g, _⟩ | ⟨g, _⟩ | ⟨g, _⟩ | ⟨g, _⟩ | ⟨g, _⟩ | ⟨g, _⟩ | ⟨g, _⟩ | ⟨_, v, hv2, m⟩
    · omega
    · omega
    · omega
    · omega
    · omega
    · omega
    · omega
    · omega
    · have ms := M_isDead hA.1 hA.cnt.2.2.1 hA.2.2.1 hd ls hv2
      rcases m with ⟨c4, hz2⟩ | ⟨c4, hz2⟩
      · rw [hz, hz2, bb.2 (fun g => by have := ms.1.mpr g; omega)]
      · rw [hz, hz2, bb.1 (ms.1.mp (by omega))]
