/-! The reference's statements that change what was told. -/
theorem pre_1 {f : Nat → Int} {N b p : Nat} {A T : St} {x1 : Int} {P0 : Prop} {P : Int → Prop} (h : MS f N b p A) (hn : NK1 b A T) (h2 : ((¬ (A 0 8) = 0) ∧ P0) ∨ (((A 0 8) = 0) ∧ (((¬ (A 0 3) = 1) ∧ P0) ∨ (((A 0 3) = 1) ∧ (∃ z16 : Int, q_X12_isOwn (A 0 7) A z16 ∧ (((¬ z16 = 0) ∧ P0) ∨ ((z16 = 0) ∧ (∃ z20 : Int, q_X12_named_1 x1 (A 0 7) A z20 ∧ P z20)))))))) : (sAsk f N T 1 p = none ∧ (P0 ∨ P (-1))) ∨ (∃ v : Int, v ≠ -1 ∧ (0 ≤ v ∧ v < T 1 1) ∧ sAsk f N T 1 p = some (v, tEnd f N p) ∧ tKind f N p = 1 ∧ isOwn5 (wv f N p) = false ∧ v = sFind T 1 (wv f N p) ∧ P v) := by
  rcases h2 with ⟨c, _⟩ | ⟨_, h2⟩
  · exact absurd h.ns c
  · rcases h2 with ⟨c1, h2⟩ | ⟨c1, z5, ho, h2⟩
    · refine Or.inl ⟨?_, Or.inl h2⟩
      unfold sAsk sName
      rw [if_neg (fun g => c1 (by rw [h.sg]; exact g.1))]
    · have tk : tKind f N p = 1 := by rw [← h.sg]; exact c1
      have g := h.own tk ho
      rcases h2 with ⟨c2, h2⟩ | ⟨c2, z20, hm, h2⟩
      · refine Or.inl ⟨?_, Or.inl h2⟩
        have ow : isOwn5 (wv f N p) = true := by
          rcases g with g | g
          · exact absurd g.1 c2
          · exact g.2
        unfold sAsk sName
        rw [if_neg (fun g => by rw [ow] at g; exact absurd g.2 (by decide))]
      · have ow : isOwn5 (wv f N p) = false := by
          rcases g with g | g
          · exact g.2
          · omega
        have sn : sName f N p = some (wv f N p, tEnd f N p) := by
          unfold sName
          rw [if_pos ⟨tk, ow⟩]
        have sa : sAsk f N T 1 p = if sFind T 1 (wv f N p) = -1 then none else some (sFind T 1 (wv f N p), tEnd f N p) := by
          unfold sAsk
          rw [sn]
        have e := nmd_1 h.bk hn (h.word tk) hm
        have b1 := sFind_b T 1 (wv f N p)
        rw [← e] at sa b1
        by_cases g1 : z20 = -1
        · rw [if_pos g1] at sa
          rw [g1] at h2
          exact Or.inl ⟨sa, Or.inr h2⟩
        · rw [if_neg g1] at sa
          rcases b1 with b1 | b1
          · exact absurd b1 g1
          · exact Or.inr ⟨z20, g1, b1, sa, tk, ow, e, h2⟩
theorem pre_2 {f : Nat → Int} {N b p : Nat} {A T : St} {x1 : Int} {P0 : Prop} {P : Int → Prop} (h : MS f N b p A) (hn : NK2 b A T) (h2 : ((¬ (A 0 8) = 0) ∧ P0) ∨ (((A 0 8) = 0) ∧ (((¬ (A 0 3) = 1) ∧ P0) ∨ (((A 0 3) = 1) ∧ (∃ z16 : Int, q_X12_isOwn (A 0 7) A z16 ∧ (((¬ z16 = 0) ∧ P0) ∨ ((z16 = 0) ∧ (∃ z20 : Int, q_X12_named_2 x1 (A 0 7) A z20 ∧ P z20)))))))) : (sAsk f N T 2 p = none ∧ (P0 ∨ P (-1))) ∨ (∃ v : Int, v ≠ -1 ∧ (0 ≤ v ∧ v < T 1 2) ∧ sAsk f N T 2 p = some (v, tEnd f N p) ∧ tKind f N p = 1 ∧ isOwn5 (wv f N p) = false ∧ v = sFind T 2 (wv f N p) ∧ P v) := by
  rcases h2 with ⟨c, _⟩ | ⟨_, h2⟩
  · exact absurd h.ns c
  · rcases h2 with ⟨c1, h2⟩ | ⟨c1, z5, ho, h2⟩
    · refine Or.inl ⟨?_, Or.inl h2⟩
      unfold sAsk sName
      rw [if_neg (fun g => c1 (by rw [h.sg]; exact g.1))]
    · have tk : tKind f N p = 1 := by rw [← h.sg]; exact c1
      have g := h.own tk ho
      rcases h2 with ⟨c2, h2⟩ | ⟨c2, z20, hm, h2⟩
      · refine Or.inl ⟨?_, Or.inl h2⟩
        have ow : isOwn5 (wv f N p) = true := by
          rcases g with g | g
          · exact absurd g.1 c2
          · exact g.2
        unfold sAsk sName
        rw [if_neg (fun g => by rw [ow] at g; exact absurd g.2 (by decide))]
      · have ow : isOwn5 (wv f N p) = false := by
          rcases g with g | g
          · exact g.2
          · omega
        have sn : sName f N p = some (wv f N p, tEnd f N p) := by
          unfold sName
          rw [if_pos ⟨tk, ow⟩]
        have sa : sAsk f N T 2 p = if sFind T 2 (wv f N p) = -1 then none else some (sFind T 2 (wv f N p), tEnd f N p) := by
          unfold sAsk
          rw [sn]
        have e := nmd_2 h.bk hn (h.word tk) hm
        have b1 := sFind_b T 2 (wv f N p)
        rw [← e] at sa b1
        by_cases g1 : z20 = -1
        · rw [if_pos g1] at sa
          rw [g1] at h2
          exact Or.inl ⟨sa, Or.inr h2⟩
        · rw [if_neg g1] at sa
          rcases b1 with b1 | b1
          · exact absurd b1 g1
          · exact Or.inr ⟨z20, g1, b1, sa, tk, ow, e, h2⟩
theorem pre_3 {f : Nat → Int} {N b p : Nat} {A T : St} {x1 : Int} {P0 : Prop} {P : Int → Prop} (h : MS f N b p A) (hn : NK3 b A T) (h2 : ((¬ (A 0 8) = 0) ∧ P0) ∨ (((A 0 8) = 0) ∧ (((¬ (A 0 3) = 1) ∧ P0) ∨ (((A 0 3) = 1) ∧ (∃ z16 : Int, q_X12_isOwn (A 0 7) A z16 ∧ (((¬ z16 = 0) ∧ P0) ∨ ((z16 = 0) ∧ (∃ z20 : Int, q_X12_named_3 x1 (A 0 7) A z20 ∧ P z20)))))))) : (sAsk f N T 3 p = none ∧ (P0 ∨ P (-1))) ∨ (∃ v : Int, v ≠ -1 ∧ (0 ≤ v ∧ v < T 1 3) ∧ sAsk f N T 3 p = some (v, tEnd f N p) ∧ tKind f N p = 1 ∧ isOwn5 (wv f N p) = false ∧ v = sFind T 3 (wv f N p) ∧ P v) := by
  rcases h2 with ⟨c, _⟩ | ⟨_, h2⟩
  · exact absurd h.ns c
  · rcases h2 with ⟨c1, h2⟩ | ⟨c1, z5, ho, h2⟩
    · refine Or.inl ⟨?_, Or.inl h2⟩
      unfold sAsk sName
      rw [if_neg (fun g => c1 (by rw [h.sg]; exact g.1))]
    · have tk : tKind f N p = 1 := by rw [← h.sg]; exact c1
      have g := h.own tk ho
      rcases h2 with ⟨c2, h2⟩ | ⟨c2, z20, hm, h2⟩
      · refine Or.inl ⟨?_, Or.inl h2⟩
        have ow : isOwn5 (wv f N p) = true := by
          rcases g with g | g
          · exact absurd g.1 c2
          · exact g.2
        unfold sAsk sName
        rw [if_neg (fun g => by rw [ow] at g; exact absurd g.2 (by decide))]
      · have ow : isOwn5 (wv f N p) = false := by
          rcases g with g | g
          · exact g.2
          · omega
        have sn : sName f N p = some (wv f N p, tEnd f N p) := by
          unfold sName
          rw [if_pos ⟨tk, ow⟩]
        have sa : sAsk f N T 3 p = if sFind T 3 (wv f N p) = -1 then none else some (sFind T 3 (wv f N p), tEnd f N p) := by
          unfold sAsk
          rw [sn]
        have e := nmd_3 h.bk hn (h.word tk) hm
        have b1 := sFind_b T 3 (wv f N p)
        rw [← e] at sa b1
        by_cases g1 : z20 = -1
        · rw [if_pos g1] at sa
          rw [g1] at h2
          exact Or.inl ⟨sa, Or.inr h2⟩
        · rw [if_neg g1] at sa
          rcases b1 with b1 | b1
          · exact absurd b1 g1
          · exact Or.inr ⟨z20, g1, b1, sa, tk, ow, e, h2⟩
theorem M_has {f : Nat → Int} {N b p : Nat} {A u T : St} (h : MS f N b p A) (hR : MR b A T) (hq : q_X12_having A u) : MT f N b (sHas f N T (tEnd f N p)) u := by
  have hb := h.bk
  obtain ⟨z1, A2, hc, h2⟩ := (hq.1 : tr_r_X12_having A u)
  obtain ⟨q2, g⟩ := M_counts h hc
  rcases h2 with ⟨c1, z7, A8, hk, h2⟩ | ⟨c1, rfl⟩
  · rcases g with ⟨_, _, s2⟩ | ⟨g, _⟩
    · have sp : ∀ p, sHas f N T p = (sAsk f N T 3 p).bind fun a => (sAsk f N T 2 a.2).bind fun b => if 10 ≤ T 24 b.1.toNat then some (stA T 24 b.1.toNat a.1, b.2) else none := fun _ => rfl
      obtain ⟨m, q8⟩ := M_ask_3 s2 (hR.1.2.2.2.1.rq q2) hk
      have q8' := q8.trans q2
      have d3f : ∀ A35, 1 ≤ A35 0 8 → d_X12_having_3 z7 A u A35 → u = A35 := by
        intro A35 g h3
        obtain ⟨_, z37, A38, hk2, h3⟩ := (h3 : tr_d_X12_having_3 z7 A u A35)
        have e := X_ask_2 g hk2
        rcases h3 with ⟨_, hu⟩ | ⟨c, _⟩
        · rw [hu, e]
        · rw [e] at c; omega
      rw [sp]
      rcases m with ⟨m8, a, sa, hz7, s8⟩ | ⟨m8, mb⟩
      · rw [sa]
        show MT f N b ((sAsk f N T 2 a.2).bind fun b => if 10 ≤ T 24 b.1.toNat then some (stA T 24 b.1.toNat a.1, b.2) else none) u
        have n2 : NK2 b A8 T := hR.1.2.2.1.rq q8'
        have d3 : (∀ c, sAsk f N T 2 a.2 = some c → 10 ≤ T 24 c.1.toNat) → d_X12_having_3 z7 A u A8 → MT f N b ((sAsk f N T 2 a.2).bind fun b => if 10 ≤ T 24 b.1.toNat then some (stA T 24 b.1.toNat a.1, b.2) else none) u := by
          intro hs h3
          obtain ⟨_, z37, A38, hk2, h3⟩ := (h3 : tr_d_X12_having_3 z7 A u A8)
          obtain ⟨m2, q38⟩ := M_ask_2 s8 n2 hk2
          rcases m2 with ⟨m28, c, sc, hz, s38⟩ | ⟨m28, mb2⟩
          · rcases h3 with ⟨c, _⟩ | ⟨_, A43, hA, hu⟩
            · exact absurd m28 c
            · have l := sAsk_some sc
              have ix : (4 * A 0 47 + z37).toNat = 4 * b + c.1.toNat := by rw [hb, hz]; omega
              rw [ix, hz7] at hA
              rw [sc]
              show MT f N b (if 10 ≤ T 24 c.1.toNat then some (stA T 24 c.1.toNat a.1, c.2) else none) u
              rw [if_pos (hs c sc)]
              refine Or.inl ⟨by rw [hu, hA]; exact m28, _, rfl, ?_, by rw [hu, hA]; exact s38.fr rfl (fun k _ => rfl)⟩
              refine (MR_has hR).rq ?_
              rw [hu, hA]
              exact (q38.trans q8').st (by decide)
          · refine Or.inr ⟨?_, mb2.bd (fun c hc => ?_)⟩
            · rcases h3 with ⟨_, hu⟩ | ⟨c, _⟩
              · rw [hu]; exact m28
              · omega
            · by_cases g : 10 ≤ T 24 c.1.toNat
              · rw [if_pos g]; exact bad_some hc
              · rw [if_neg g]; exact Or.inl rfl
        have d2 : sAsk f N T 2 a.2 = none → d_X12_having_2 z7 A A8 u (-1) → MT f N b ((sAsk f N T 2 a.2).bind fun b => if 10 ≤ T 24 b.1.toNat then some (stA T 24 b.1.toNat a.1, b.2) else none) u := by
          intro hs h3
          obtain ⟨_, h3⟩ := (h3 : tr_d_X12_having_2 z7 A A8 u (-1))
          rcases h3 with ⟨_, h3⟩ | ⟨c, _⟩
          · exact d3 (fun c sc => by rw [hs] at sc; exact absurd sc (by simp)) h3
          · exact absurd rfl c
        rcases pre_2 (P0 := d_X12_having_1 z7 A A8 u) (P := fun v => d_X12_having_2 z7 A A8 u v) s8 n2 h2 with ⟨hs, h3⟩ | ⟨v, v1, vb, hs, _, _, _, h3⟩
        · rcases h3 with h3 | h3
          · exact d2 hs h3
          · exact d2 hs h3
        · obtain ⟨_, h3⟩ := (h3 : tr_d_X12_having_2 z7 A A8 u v)
          rcases h3 with ⟨c, _⟩ | ⟨_, z29, hz29, h3⟩
          · exact absurd c v1
          · have ix : (4 * A 0 47 + v).toNat = 4 * b + v.toNat := by rw [hb]; omega
            have ek := (hR.2.2.2.2.2.2.1.1 v.toNat (by omega)).1
            rw [ix, q8' 13 (by decide), ek] at hz29
            rcases h3 with ⟨c2, h3⟩ | ⟨c2, A31, hbl, h3⟩
            · refine d3 (fun c sc => ?_) h3
              rw [hs] at sc
              have sc := Option.some.inj sc
              rw [← sc, ← hz29]
              exact c2
            · have f1 := hbl.2.2.2
              rw [d3f A31 f1 h3]
              refine Or.inr ⟨f1, Or.inl ?_⟩
              rw [hs]
              show (if 10 ≤ T 24 v.toNat then _ else none) = none
              rw [if_neg (by rw [← hz29]; exact c2)]
      · refine Or.inr ⟨?_, mb.bd (fun c hc => by rw [bad_ask hc]; exact Or.inl rfl)⟩
        rcases h2 with ⟨_, h2⟩ | ⟨c, _⟩
        · obtain ⟨_, h3⟩ := (h2 : tr_d_X12_having_2 z7 A A8 u (-1))
          rcases h3 with ⟨_, h3⟩ | ⟨c, _⟩
          · rw [d3f A8 m8 h3]; exact m8
          · exact absurd rfl c
        · omega
    · exact absurd g c1
  · rcases g with ⟨g, _⟩ | ⟨_, g8, g⟩
    · omega
    · refine Or.inr ⟨g8, Or.inl ?_⟩
      rcases g with g | g
      · exact absurd rfl g
      · exact bad_Has g
theorem M_lost {f : Nat → Int} {N b p : Nat} {A u T : St} (hI : IM A) (h : MS f N b p A) (hR : MR b A T) (hq : q_X12_losing A u) : MT f N b (sLost f N T (tEnd f N p)) u := by
  have hb := h.bk
  have hct : A 4 b = T 1 1 := hR.1.2.1.1
  have r2 : (0 : Int) ≤ A 4 b ∧ A 4 b ≤ 10 := hI 4 b
  obtain ⟨z1, A2, hc, h2⟩ := (hq.1 : tr_r_X12_losing A u)
  obtain ⟨q2, g⟩ := M_counts h hc
  rcases h2 with ⟨c1, h2⟩ | ⟨c1, rfl⟩
  · rcases g with ⟨_, _, s2⟩ | ⟨g, _⟩
    · have sp : ∀ p, sLost f N T p = (sAsk f N T 1 p).bind fun a => if oAnd (oShr (T 0 15) a.1) 1 = 0 then some (stA T 0 15 (oOr (T 0 15) (oShl 1 a.1)), a.2) else none := fun _ => rfl
      have d3f : ∀ A35, 1 ≤ A35 0 8 → d_X12_losing_3 A u A35 → u = A35 := by
        intro A35 g h3
        obtain ⟨_, z37, A38, hk2, h3⟩ := (h3 : tr_d_X12_losing_3 A u A35)
        have e := X_ask_1 g hk2
        rcases h3 with ⟨_, hu⟩ | ⟨c, _⟩
        · rw [hu, e]
        · rw [e] at c; omega
      rw [sp]
      have n1 : NK1 b A2 T := hR.1.2.1.rq q2
      have d3 : (∀ c, sAsk f N T 1 (tEnd f N p) = some c → oAnd (oShr (T 0 15) c.1) 1 = 0) → d_X12_losing_3 A u A2 → MT f N b ((sAsk f N T 1 (tEnd f N p)).bind fun a => if oAnd (oShr (T 0 15) a.1) 1 = 0 then some (stA T 0 15 (oOr (T 0 15) (oShl 1 a.1)), a.2) else none) u := by
        intro hs h3
        obtain ⟨_, z37, A38, hk2, h3⟩ := (h3 : tr_d_X12_losing_3 A u A2)
        obtain ⟨m2, q38⟩ := M_ask_1 s2 n1 hk2
        rcases m2 with ⟨m28, c, sc, hz, s38⟩ | ⟨m28, mb2⟩
        · rcases h3 with ⟨c, _⟩ | ⟨_, A43, hA, hu⟩
          · exact absurd m28 c
          · have l := sAsk_some sc
            have ix : (10 * A 0 47 + z37).toNat = 10 * b + c.1.toNat := by rw [hb, hz]; omega
            rw [ix] at hA
            have hs := hs c sc
            rw [sc]
            show MT f N b (if oAnd (oShr (T 0 15) c.1) 1 = 0 then some (stA T 0 15 (oOr (T 0 15) (oShl 1 c.1)), c.2) else none) u
            rw [if_pos hs]
            refine Or.inl ⟨by rw [hu, hA]; exact m28, _, rfl, ?_, by rw [hu, hA]; exact s38.fr rfl (fun k _ => rfl)⟩
            have mr := MR_lost (n := c.1.toNat) hR (by omega) (by omega)
            rw [show ((c.1.toNat : Nat) : Int) = c.1 by omega] at mr
            refine mr.rq ?_
            rw [hu, hA]
            exact (q38.trans q2).st (by decide)
        · refine Or.inr ⟨?_, mb2.bd (fun c hc => ?_)⟩
          · rcases h3 with ⟨_, hu⟩ | ⟨c, _⟩
            · rw [hu]; exact m28
            · omega
          · by_cases g : oAnd (oShr (T 0 15) c.1) 1 = 0
            · rw [if_pos g]; exact bad_some hc
            · rw [if_neg g]; exact Or.inl rfl
      have d2 : sAsk f N T 1 (tEnd f N p) = none → d_X12_losing_2 A A2 u (-1) → MT f N b ((sAsk f N T 1 (tEnd f N p)).bind fun a => if oAnd (oShr (T 0 15) a.1) 1 = 0 then some (stA T 0 15 (oOr (T 0 15) (oShl 1 a.1)), a.2) else none) u := by
        intro hs h3
        obtain ⟨_, h3⟩ := (h3 : tr_d_X12_losing_2 A A2 u (-1))
        rcases h3 with ⟨_, h3⟩ | ⟨c, _⟩
        · exact d3 (fun c sc => by rw [hs] at sc; exact absurd sc (by simp)) h3
        · exact absurd rfl c
      rcases pre_1 (P0 := d_X12_losing_1 A A2 u) (P := fun v => d_X12_losing_2 A A2 u v) s2 n1 h2 with ⟨hs, h3⟩ | ⟨v, v1, vb, hs, _, _, _, h3⟩
      · rcases h3 with h3 | h3
        · exact d2 hs h3
        · exact d2 hs h3
      · obtain ⟨_, h3⟩ := (h3 : tr_d_X12_losing_2 A A2 u v)
        rcases h3 with ⟨c, _⟩ | ⟨_, z29, hz29, h3⟩
        · exact absurd c v1
        · have ix : (10 * A 0 47 + v).toNat = 10 * b + v.toNat := by rw [hb]; omega
          have ml := hR.2.2.2.2.2.1
          have ek := ml.2.1 v.toNat (by omega)
          have eb := bit_iff (d := v.toNat) ml.1 (by omega)
          rw [show ((v.toNat : Nat) : Int) = v by omega] at eb
          rw [ix, q2 10 (by decide)] at hz29
          rw [← hz29, ← eb] at ek
          rcases h3 with ⟨c2, h3⟩ | ⟨c2, A31, hbl, h3⟩
          · refine d3 (fun c sc => ?_) h3
            rw [hs] at sc
            have sc := Option.some.inj sc
            rw [← sc]
            exact ek.mp c2
          · have f1 := hbl.2.2.2
            rw [d3f A31 f1 h3]
            refine Or.inr ⟨f1, Or.inl ?_⟩
            rw [hs]
            show (if oAnd (oShr (T 0 15) v) 1 = 0 then _ else none) = none
            rw [if_neg (fun g => c2 (ek.mpr g))]
    · exact absurd g c1
  · rcases g with ⟨g, _⟩ | ⟨_, g8, g⟩
    · omega
    · refine Or.inr ⟨g8, Or.inl ?_⟩
      rcases g with g | g
      · exact absurd rfl g
      · exact bad_Lost g
