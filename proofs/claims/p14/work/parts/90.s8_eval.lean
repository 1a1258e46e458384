/-! Both machines run a test's codes as they are worth. -/
theorem fd_prop {a b : Int} (hb : ¬ b = 0) : a.fdiv b = if (0 ≤ a ↔ 0 ≤ b) ∨ a.tdiv b * b = a then a.tdiv b else a.tdiv b - 1 := by
  have td : a.tdiv b * b = a ↔ b ∣ a := ⟨fun h => ⟨a.tdiv b, by rw [Int.mul_comm]; exact h.symm⟩, fun h => Int.tdiv_mul_cancel h⟩
  by_cases d : b ∣ a
  · rw [if_pos (Or.inr (td.mpr d)), Int.fdiv_eq_ediv_of_dvd d, Int.tdiv_eq_ediv_of_dvd d]
  · have nt : ¬ a.tdiv b * b = a := fun g => d (td.mp g)
    have ef := Int.fdiv_eq_ediv (a := a) (b := b)
    have et := Int.tdiv_eq_ediv (a := a) (b := b)
    by_cases ha : 0 ≤ a
    · rw [if_pos (Or.inl ha)] at et
      by_cases h0 : 0 ≤ b
      · rw [if_pos (Or.inl h0)] at ef
        rw [if_pos (Or.inl ⟨fun _ => h0, fun _ => ha⟩)]
        omega
      · rw [if_neg (fun g => g.elim h0 d)] at ef
        rw [if_neg (fun g => g.elim (fun g => h0 (g.mp ha)) nt)]
        omega
    · rw [if_neg (fun g => g.elim ha d)] at et
      by_cases h0 : 0 ≤ b
      · rw [if_pos (Or.inl h0)] at ef
        rw [Int.sign_eq_one_of_pos (by omega)] at et
        rw [if_neg (fun g => g.elim (fun g => ha (g.mpr h0)) nt)]
        omega
      · rw [if_neg (fun g => g.elim h0 d)] at ef
        rw [Int.sign_eq_neg_one_of_neg (by omega)] at et
        rw [if_pos (Or.inl ⟨fun g => absurd g ha, fun g => absurd g h0⟩)]
        omega
theorem oXor_sign {a b : Int} (ha : R32 a) (hb : R32 b) : 0 ≤ oXor a b ↔ (0 ≤ a ↔ 0 ≤ b) := by
  have m : ∀ x : BitVec 32, 0 ≤ x.toInt ↔ x.msb = false := by
    intro x
    rw [BitVec.msb_eq_toInt, decide_eq_false_iff_not]
    omega
  have ma := m (iI a).toBitVec
  have mb := m (iI b).toBitVec
  have ea : (iI a).toBitVec.toInt = a := iI_toInt ha
  have eb : (iI b).toBitVec.toInt = b := iI_toInt hb
  rw [ea] at ma
  rw [eb] at mb
  have e : oXor a b = ((iI a).toBitVec ^^^ (iI b).toBitVec).toInt := rfl
  rw [e, m, BitVec.msb_xor, ma, mb]
  cases (iI a).toBitVec.msb <;> cases (iI b).toBitVec.msb <;> decide
theorem oDiv_t {a b : Int} (ha : R32 a) (hb : R32 b) (h : ¬ b = -1) : oDiv a b = a.tdiv b := by
  have ne : iI b ≠ -1 := by
    intro e
    have e2 := congrArg Int32.toInt e
    rw [iI_toInt hb] at e2
    have m1 : (-1 : Int32).toInt = -1 := by decide +kernel
    omega
  unfold oDiv
  rw [Int32.toInt_div_of_ne_right _ _ ne, iI_toInt ha, iI_toInt hb]
theorem tdiv_vn {a b : Int} (ha : VN a) : VN (a.tdiv b) := by
  have g := Int.natAbs_tdiv_le_natAbs a b
  obtain ⟨a1, a2⟩ := ha
  unfold VN
  omega
theorem oDiv_v {a b : Int} (ha : VN a) (hb : VN b) (h0 : ¬ b = 0) : oDiv a b = a.tdiv b := by
  obtain ⟨a1, a2⟩ := ha
  obtain ⟨b1, b2⟩ := hb
  have ne : iI a ≠ Int32.minValue := by
    intro e
    have e2 := congrArg Int32.toInt e
    rw [iI_toInt ⟨by omega, by omega⟩] at e2
    have m1 : (Int32.minValue).toInt = -2147483648 := by decide +kernel
    omega
  unfold oDiv
  rw [Int32.toInt_div_of_ne_left _ _ ne, iI_toInt ⟨by omega, by omega⟩, iI_toInt ⟨by omega, by omega⟩]
/-- a product of the quotient stays small -/
theorem tdm_vn {a b : Int} (ha : VN a) : VN (a.tdiv b * b) := by
  have e := Int.tmod_add_tdiv_mul a b
  have g : (a.tdiv b * b).natAbs ≤ a.natAbs := by
    rw [Int.natAbs_mul, Int.natAbs_tdiv]
    exact Nat.div_mul_le_self _ _
  obtain ⟨a1, a2⟩ := ha
  unfold VN
  omega
theorem K_fdiv {a b z : Int} {A : St} (ha : VN a) (hb : VN b) (h0 : ¬ b = 0) (h : q_J9_floorDiv_7cf53 a b A z) : z = a.fdiv b := by
  have ra : R32 a := ⟨by have := ha.1; omega, by have := ha.2; omega⟩
  have rb : R32 b := ⟨by have := hb.1; omega, by have := hb.2; omega⟩
  have tv := tdiv_vn (b := b) ha
  have tm := tdm_vn (b := b) ha
  have t1 := tv.1
  have t2 := tv.2
  have m1 := tm.1
  have m2 := tm.2
  obtain ⟨z1, e1, z2, e2, h⟩ := (h.1 : tr_r_J9_floorDiv_7cf53 a b A z)
  rw [oDiv_v ha hb h0] at e1
  have xs := oXor_sign ra rb
  rw [← e2] at xs
  rw [fd_prop h0]
  rcases h with ⟨c, hz⟩ | ⟨c, z4, e4, h⟩
  · rw [if_pos (Or.inl (xs.mp c)), hz, e1]
  · rw [e1, oMul_id ⟨by omega, by omega⟩] at e4
    rcases h with ⟨c2, hz⟩ | ⟨c2, z6, e6, hz⟩
    · rw [if_pos (Or.inr (by rw [← e4]; exact c2)), hz, e1]
    · rw [if_neg (fun g => g.elim (fun g => c (xs.mpr g)) (fun g => c2 (by rw [e4]; exact g))), hz, e6, e1]
      exact oWrap_id ⟨by omega, by omega⟩
theorem K_fmod {a b z : Int} {A : St} (ha : VN a) (hb : VN b) (h0 : ¬ b = 0) (h : q_J9_floorMod_7cf53 a b A z) : z = a.fmod b := by
  have ra : R32 a := ⟨by have := ha.1; omega, by have := ha.2; omega⟩
  have rb : R32 b := ⟨by have := hb.1; omega, by have := hb.2; omega⟩
  have tv := tdiv_vn (b := b) ha
  have tm := tdm_vn (b := b) ha
  have t1 := tv.1
  have t2 := tv.2
  have m1 := tm.1
  have m2 := tm.2
  have a1 := ha.1
  have a2 := ha.2
  have b1 := hb.1
  have b2 := hb.2
  obtain ⟨z1, e1, z2, e2, h⟩ := (h.1 : tr_r_J9_floorMod_7cf53 a b A z)
  have er : oRem a b = a - a.tdiv b * b := by
    have d : iI a / iI b = iI (a.tdiv b) := by
      rw [← oDiv_v ha hb h0]
      exact (iI_of _).symm
    unfold oRem
    rw [d, iI_mul, iI_sub, iI_toInt ⟨by omega, by omega⟩]
  rw [er] at e1
  have xs := oXor_sign ra rb
  rw [← e2] at xs
  have fd := fd_prop (a := a) h0
  have fm := Int.fmod_def a b
  have mc := Int.mul_comm b (a.fdiv b)
  rcases h with ⟨c, hz⟩ | ⟨c, h⟩
  · rw [if_pos (Or.inl (xs.mp c))] at fd
    rw [fd] at fm mc
    omega
  · rcases h with ⟨c2, hz⟩ | ⟨c2, z5, e5, hz⟩
    · rw [if_pos (Or.inr (by omega))] at fd
      rw [fd] at fm mc
      omega
    · rw [if_neg (fun g => g.elim (fun g => c (xs.mpr g)) (fun g => by omega))] at fd
      rw [fd, Int.sub_mul, Int.one_mul] at mc
      rw [fd] at fm
      rw [oWrap_id ⟨by omega, by omega⟩] at e5
      omega
theorem K_bounded {x z : Int} {A : St} (h : q_X8_bounded x A z) : z = bdI x := by
  obtain ⟨z1, ⟨_, c1, c2⟩, h⟩ := (h.1 : tr_r_X8_bounded x A z)
  unfold bdI
  rcases h with ⟨c, z3, ⟨_, d1, d2⟩, h⟩ | ⟨c, hz⟩
  · rw [if_neg (by omega)]
    rcases h with ⟨c3, z5, e5, hz⟩ | ⟨c3, hz⟩
    · rw [if_neg (by omega), hz, e5]
      have rx : R32 x := ⟨by omega, by omega⟩
      unfold oL2i
      have e : (jI x).toInt32 = iI x := by
        show (Int64.ofInt x).toInt32 = Int32.ofInt x
        exact Int64.toInt32_ofInt
      rw [e, iI_toInt rx]
    · rw [if_pos (by omega)]; exact hz
  · rw [if_pos (by omega)]; exact hz
theorem M_bounded {x z : Int} {A : St} (h : q_X12_bounded x A z) : z = bdI x := by
  obtain ⟨z1, ⟨_, c1, c2⟩, h⟩ := (h.1 : tr_r_X12_bounded x A z)
  unfold bdI
  rcases h with ⟨c, z3, ⟨_, d1, d2⟩, h⟩ | ⟨c, hz⟩
  · rw [if_neg (by omega)]
    rcases h with ⟨c3, hz⟩ | ⟨c3, hz⟩
    · rw [if_neg (by omega)]; exact hz
    · rw [if_pos (by omega)]; exact hz
  · rw [if_pos (by omega)]; exact hz
theorem oI2l_id {x : Int} (h : R32 x) : oI2l x = x := by
  unfold oI2l
  rw [Int32.toInt_toInt64, iI_toInt h]
theorem pAdd_id {a b : Int} (h : R64 (a + b)) : pAdd a b = a + b := by
  unfold pAdd
  have e : jI a + jI b = jI (a + b) := (Int64.ofInt_add a b).symm
  rw [e, jI_toInt h]
theorem pSub_id {a b : Int} (h : R64 (a - b)) : pSub a b = a - b := by
  unfold pSub
  have e : jI a - jI b = jI (a - b) := (Int64.ofInt_sub a b).symm
  rw [e, jI_toInt h]
theorem pMul_id {a b : Int} (h : R64 (a * b)) : pMul a b = a * b := by
  unfold pMul
  have e : jI a * jI b = jI (a * b) := (Int64.ofInt_mul a b).symm
  rw [e, jI_toInt h]
theorem mul_vn {a b : Int} (ha : VN a) (hb : VN b) : -1000000000000 ≤ a * b ∧ a * b ≤ 1000000000000 := by
  have na : a.natAbs ≤ 1000000 := by have := ha.1; have := ha.2; omega
  have nb : b.natAbs ≤ 1000000 := by have := hb.1; have := hb.2; omega
  have g : (a * b).natAbs ≤ 1000000 * 1000000 := by
    rw [Int.natAbs_mul]
    exact Nat.mul_le_mul na nb
  omega
theorem pDiv_v {a b : Int} (ha : VN a) (hb : VN b) (h0 : ¬ b = 0) : pDiv a b = a.tdiv b := by
  obtain ⟨a1, a2⟩ := ha
  obtain ⟨b1, b2⟩ := hb
  have ne : jI a ≠ Int64.minValue := by
    intro e
    have e2 := congrArg Int64.toInt e
    rw [jI_toInt ⟨by omega, by omega⟩] at e2
    have m1 : (Int64.minValue).toInt = -9223372036854775808 := by decide +kernel
    omega
  unfold pDiv
  rw [Int64.toInt_div_of_ne_left _ _ ne, jI_toInt ⟨by omega, by omega⟩, jI_toInt ⟨by omega, by omega⟩]
theorem pRem_v {a b : Int} (ha : VN a) (hb : VN b) (h0 : ¬ b = 0) : pRem a b = a - a.tdiv b * b := by
  have tm := tdm_vn (b := b) ha
  have m1 := tm.1
  have m2 := tm.2
  have a1 := ha.1
  have a2 := ha.2
  have d : jI a / jI b = jI (a.tdiv b) := by
    rw [← pDiv_v ha hb h0]
    exact (jI_of _).symm
  have e1 : jI (a.tdiv b) * jI b = jI (a.tdiv b * b) := (Int64.ofInt_mul _ _).symm
  have e2 : jI a - jI (a.tdiv b * b) = jI (a - a.tdiv b * b) := (Int64.ofInt_sub _ _).symm
  unfold pRem
  rw [d, e1, e2, jI_toInt ⟨by omega, by omega⟩]
theorem M_over {a b z : Int} {A : St} (ha : VN a) (hb : VN b) (h0 : ¬ b = 0) (h : q_X12_over a b A z) : z = a.fdiv b := by
  have tv := tdiv_vn (b := b) ha
  have t1 := tv.1
  have t2 := tv.2
  obtain ⟨z1, ⟨_, c1, _⟩, h⟩ := (h.1 : tr_r_X12_over a b A z)
  have fd := fd_prop (a := a) h0
  rcases h with ⟨_, z3, e3, z4, e4, z5, ⟨_, c5, _⟩, h⟩ | ⟨c, _⟩
  · rw [pDiv_v ha hb h0] at e3
    rw [pRem_v ha hb h0] at e4
    rcases h with ⟨c6, hz⟩ | ⟨c6, z7, ⟨_, _, c7⟩, h⟩
    · rw [if_pos (Or.inr (by omega))] at fd
      omega
    · have fin : ∀ (x y : Int), (x = 1 ↔ a < 0) → (x = 0 ∨ x = 1) → (y = 1 ↔ b < 0) → (y = 0 ∨ y = 1) → d_X12_over_2 z3 x z y → z = a.fdiv b := by
        intro x y hx hx2 hy hy2 h
        obtain ⟨_, h⟩ := (h : tr_d_X12_over_2 z3 x z y)
        rcases h with ⟨c8, hz⟩ | ⟨c8, z22, e22, hz⟩
        · rw [if_pos (Or.inl ⟨fun _ => by omega, fun _ => by omega⟩)] at fd
          omega
        · rw [if_neg (fun g => g.elim (fun g => by
            by_cases a0 : 0 ≤ a
            · have := g.mp a0; omega
            · by_cases b0 : 0 ≤ b
              · exact a0 (g.mpr b0)
              · omega) (fun g => by omega))] at fd
          rw [pSub_id ⟨by omega, by omega⟩] at e22
          omega
      have d1 : ∀ x : Int, (x = 1 ↔ a < 0) → (x = 0 ∨ x = 1) → d_X12_over_1 b z3 z x → z = a.fdiv b := by
        intro x hx hx2 h
        obtain ⟨_, z14, ⟨_, _, c14⟩, h⟩ := (h : tr_d_X12_over_1 b z3 z x)
        rcases h with ⟨c9, h⟩ | ⟨c9, h⟩
        · exact fin x 0 hx hx2 ⟨fun g => absurd g (by decide), fun g => by omega⟩ (Or.inl rfl) h
        · exact fin x 1 hx hx2 ⟨fun _ => by omega, fun _ => rfl⟩ (Or.inr rfl) h
      rcases h with ⟨c8, h⟩ | ⟨c8, h⟩
      · exact d1 0 ⟨fun g => absurd g (by decide), fun g => by omega⟩ (Or.inl rfl) h
      · exact d1 1 ⟨fun _ => by omega, fun _ => rfl⟩ (Or.inr rfl) h
  · omega
theorem jn_7 {a b : Int} : jn (-7) a b = (if 0 < a + b then 1 else 0) := by
  unfold jn
  rw [if_pos rfl]
theorem jn_8 {a b : Int} : jn (-8) a b = (a * b) := by
  unfold jn
  rw [if_neg (by decide), if_pos rfl]
theorem jn_9 {a b : Int} : jn (-9) a b = (if a < b then 1 else 0) := by
  unfold jn
  rw [if_neg (by decide), if_neg (by decide), if_pos rfl]
theorem jn_10 {a b : Int} : jn (-10) a b = (if b < a then 1 else 0) := by
  unfold jn
  rw [if_neg (by decide), if_neg (by decide), if_neg (by decide), if_pos rfl]
theorem jn_11 {a b : Int} : jn (-11) a b = (if a = b then 1 else 0) := by
  unfold jn
  rw [if_neg (by decide), if_neg (by decide), if_neg (by decide), if_neg (by decide), if_pos rfl]
theorem jn_12 {a b : Int} : jn (-12) a b = (bdI (a + b)) := by
  unfold jn
  rw [if_neg (by decide), if_neg (by decide), if_neg (by decide), if_neg (by decide), if_neg (by decide), if_pos rfl]
theorem jn_13 {a b : Int} : jn (-13) a b = (bdI (a - b)) := by
  unfold jn
  rw [if_neg (by decide), if_neg (by decide), if_neg (by decide), if_neg (by decide), if_neg (by decide), if_neg (by decide), if_pos rfl]
theorem jn_14 {a b : Int} : jn (-14) a b = (bdI (a * b)) := by
  unfold jn
  rw [if_neg (by decide), if_neg (by decide), if_neg (by decide), if_neg (by decide), if_neg (by decide), if_neg (by decide), if_neg (by decide), if_pos rfl]
theorem jn_15 {a b : Int} : jn (-15) a b = (if b = 0 then 0 else a.fdiv b) := by
  unfold jn
  rw [if_neg (by decide), if_neg (by decide), if_neg (by decide), if_neg (by decide), if_neg (by decide), if_neg (by decide), if_neg (by decide), if_neg (by decide), if_pos rfl]
theorem jn_16 {a b : Int} : jn (-16) a b = (if b = 0 then 0 else a.fmod b) := by
  unfold jn
  rw [if_neg (by decide), if_neg (by decide), if_neg (by decide), if_neg (by decide), if_neg (by decide), if_neg (by decide), if_neg (by decide), if_neg (by decide), if_neg (by decide), if_pos rfl]
theorem jn_17 {a b : Int} : jn (-17) a b = (if a < b then a else b) := by
  unfold jn
  rw [if_neg (by decide), if_neg (by decide), if_neg (by decide), if_neg (by decide), if_neg (by decide), if_neg (by decide), if_neg (by decide), if_neg (by decide), if_neg (by decide), if_neg (by decide), if_pos rfl]
theorem jn_18 {a b : Int} : jn (-18) a b = (if b < a then a else b) := by
  unfold jn
  rw [if_neg (by decide), if_neg (by decide), if_neg (by decide), if_neg (by decide), if_neg (by decide), if_neg (by decide), if_neg (by decide), if_neg (by decide), if_neg (by decide), if_neg (by decide), if_neg (by decide)]
theorem orB : ∀ a b : Fin 2, oOr (a.val : Int) (b.val : Int) = jn (-7) (a.val : Int) (b.val : Int) := by decide +kernel
theorem andB : ∀ a b : Fin 2, oAnd (a.val : Int) (b.val : Int) = jn (-8) (a.val : Int) (b.val : Int) := by decide +kernel
theorem b01 {a : Int} (h : a = 0 ∨ a = 1) : ∃ x : Fin 2, (x.val : Int) = a := by
  rcases h with rfl | rfl
  · exact ⟨0, rfl⟩
  · exact ⟨1, rfl⟩
theorem K_joined {w a b z : Int} {A : St} (hw : w < -6) (ok : okV w a b) (hj : q_X8_joined w a b A z) : z = jn w a b := by
  obtain ⟨ha, hb, hl⟩ := ok
  have mv := mul_vn (a := a) (b := b) ha hb
  have ra : R32 a := ⟨by omega, by omega⟩
  have rb : R32 b := ⟨by omega, by omega⟩
  rcases (hj.1 : tr_r_X8_joined w a b A z) with ⟨c, z2, e2, hz⟩ | ⟨c, z3, e3, hz⟩ | ⟨c, h⟩ | ⟨c, h⟩ | ⟨c, z12, e12, z13, e13, z14, e14, z15, h15, hz⟩ | ⟨c, z18, e18, z19, e19, z20, e20, z21, h21, hz⟩ | ⟨c, z24, e24, z25, e25, z26, e26, z27, h27, hz⟩ | ⟨c, h⟩ | ⟨c, h⟩ | ⟨c, h⟩ | ⟨c, z33, e33, hz⟩ | ⟨c, z34, e34, hz⟩
  · have ej : jn w a b = if b < a then a else b := by
      unfold jn
      rw [if_neg (by omega), if_neg (by omega), if_neg (by omega), if_neg (by omega), if_neg (by omega), if_neg (by omega), if_neg (by omega), if_neg (by omega), if_neg (by omega), if_neg (by omega), if_neg (by omega)]
    rw [ej]
    by_cases g : b < a
    · rw [if_pos g]; omega
    · rw [if_neg g]; omega
  · subst c
    rw [jn_17]
    by_cases g : a < b
    · rw [if_pos g]; omega
    · rw [if_neg g]; omega
  · subst c
    rw [jn_16]
    rcases h with ⟨n0, z5, h5, hz⟩ | ⟨y0, hz⟩
    · rw [if_neg n0, hz]; exact K_fmod ha hb n0 h5
    · rw [if_pos y0]; exact hz
  · subst c
    rw [jn_15]
    rcases h with ⟨n0, z5, h5, hz⟩ | ⟨y0, hz⟩
    · rw [if_neg n0, hz]; exact K_fdiv ha hb n0 h5
    · rw [if_pos y0]; exact hz
  · subst c
    rw [oI2l_id ra] at e12
    rw [oI2l_id rb] at e13
    rw [e12, e13, pMul_id ⟨by omega, by omega⟩] at e14
    rw [hz, K_bounded h15, e14, jn_14]
  · subst c
    rw [oI2l_id ra] at e18
    rw [oI2l_id rb] at e19
    rw [e18, e19, pSub_id ⟨by omega, by omega⟩] at e20
    rw [hz, K_bounded h21, e20, jn_13]
  · subst c
    rw [oI2l_id ra] at e24
    rw [oI2l_id rb] at e25
    rw [e24, e25, pAdd_id ⟨by omega, by omega⟩] at e26
    rw [hz, K_bounded h27, e26, jn_12]
  · subst c
    rw [jn_11]
    rcases h with ⟨n0, hz⟩ | ⟨y0, hz⟩
    · rw [if_neg n0]; exact hz
    · rw [if_pos y0]; exact hz
  · subst c
    rw [jn_10]
    rcases h with ⟨n0, hz⟩ | ⟨y0, hz⟩
    · rw [if_neg (by omega)]; exact hz
    · rw [if_pos (by omega)]; exact hz
  · subst c
    rw [jn_9]
    rcases h with ⟨n0, hz⟩ | ⟨y0, hz⟩
    · rw [if_neg (by omega)]; exact hz
    · rw [if_pos (by omega)]; exact hz
  · subst c
    have l := hl (Or.inr rfl)
    obtain ⟨x, hx⟩ := b01 l.1
    obtain ⟨y, hy⟩ := b01 l.2
    rw [hz, e33, ← hx, ← hy]
    exact andB x y
  · subst c
    have l := hl (Or.inl rfl)
    obtain ⟨x, hx⟩ := b01 l.1
    obtain ⟨y, hy⟩ := b01 l.2
    rw [hz, e34, ← hx, ← hy]
    exact orB x y
