theorem adr_at {w w' : va_W} (h : w'.map (fun q => q.1) = w.map (fun q => q.1)) {i : Nat} {a : Nat × va_E} (hi : w'[i]? = some a) : ∃ a2, w[i]? = some a2 ∧ a2.1 = a.1 := by
  have h1 : (w'.map (fun q => q.1))[i]? = some a.1 := by rw [List.getElem?_map, hi]; rfl
  rw [h, List.getElem?_map] at h1
  cases h2 : w[i]? with
  | none => rw [h2] at h1; cases h1
  | some r => rw [h2] at h1; exact ⟨r, rfl, Option.some.inj h1⟩
theorem va_D_adr {AS : Nat → Prop} {w w' : va_W} (h : w'.map (fun q => q.1) = w.map (fun q => q.1)) (hD : va_D AS w) : va_D AS w' := by
  refine ⟨fun i j a b ha hb hab => ?_, fun k a ha => ?_⟩
  · obtain ⟨a2, h1, e1⟩ := adr_at h ha
    obtain ⟨b2, h2, e2⟩ := adr_at h hb
    exact hD.1 i j a2 b2 h1 h2 (by rw [e1, e2]; exact hab)
  · obtain ⟨a2, h1, e1⟩ := adr_at h ha
    rw [← e1]
    exact hD.2 k a2 h1
theorem wapart_adr {w1 w2 w1' w2' : va_W} (h1 : w1'.map (fun q => q.1) = w1.map (fun q => q.1)) (h2 : w2'.map (fun q => q.1) = w2.map (fun q => q.1)) (h : wapart w1 w2) : wapart w1' w2' := by
  intro i j a b ha hb
  obtain ⟨a2, g1, e1⟩ := adr_at h1 ha
  obtain ⟨b2, g2, e2⟩ := adr_at h2 hb
  rw [← e1, ← e2]
  exact h i j a2 b2 g1 g2
theorem app_left {w1 w2 : va_W} {i : Nat} {a : Nat × va_E} (h : w1[i]? = some a) : (w1 ++ w2)[i]? = some a := by
  rw [List.getElem?_append_left (List.getElem?_eq_some_iff.mp h).1]
  exact h
theorem app_right {w1 w2 : va_W} {i : Nat} {a : Nat × va_E} (h : w2[i]? = some a) : (w1 ++ w2)[w1.length + i]? = some a := by
  rw [List.getElem?_append_right (by omega), show w1.length + i - w1.length = i by omega]
  exact h
theorem va_D_left {AS : Nat → Prop} {w1 w2 : va_W} (hD : va_D AS (w1 ++ w2)) : va_D AS w1 := ⟨fun i j a b ha hb hab => hD.1 i j a b (app_left ha) (app_left hb) hab, fun k a ha => hD.2 k a (app_left ha)⟩
theorem va_D_right {AS : Nat → Prop} {w1 w2 : va_W} (hD : va_D AS (w1 ++ w2)) : va_D AS w2 := ⟨fun i j a b ha hb hab => by have := hD.1 _ _ a b (app_right ha) (app_right hb) hab; omega, fun k a ha => hD.2 _ a (app_right ha)⟩
theorem va_P_left {D : va_G} {cl : List vw_C} {w1 w2 : va_W} {H : Heap} (hP : va_P D cl (w1 ++ w2) H) : va_P D cl w1 H := fun k a ha => hP k a (app_left ha)
theorem va_P_right {D : va_G} {cl : List vw_C} {w1 w2 : va_W} {H : Heap} (hP : va_P D cl (w1 ++ w2) H) : va_P D cl w2 H := fun k a ha => hP _ a (app_right ha)
theorem wapart_of {AS : Nat → Prop} {w1 w2 : va_W} (hD : va_D AS (w1 ++ w2)) : wapart w1 w2 := by
  intro i j a b ha hb hab
  have h := hD.1 _ _ a b (app_left ha) (app_right hb) hab
  have hl := (List.getElem?_eq_some_iff.mp ha).1
  omega
theorem start3 {p : Program} {e : Env} {s : State} {m : MethodId} {below : List Frame} {meth : Method} {c : Code} (l : Launch) {b L : Nat} {xs : Nat → Int32} (hL : L ≤ 3072) (C0 : lw_At p s m meth c b L xs) (dC : Nat → ClassId) (dI : Nat → Nat → Nat) (cB cI cJ cZ cQ : ClassId) (aL aS : Nat) (q r : Nat → Nat) (g : Nat → Int) (hg : ∀ k, R32 (g k)) (ho : ∀ k : Nat, k < 26 → g k = own5 k) (hK : va_K (dC, dI) vwCl (tyA cB cI cJ cZ cQ) s) (hE : exK aL aS (fun b : Nat => s.heap.size ≤ b) s) {H : Heap} {locs : List Loc} {cells slots : Nat} {ls : Array Slot} (hcs : cells ≤ room_1.cells ∧ slots ≤ room_1.slots) (hP : va_P (dC, dI) vwCl (WK cB cI cJ cZ cQ q (B0 g) ++ WM cI cJ cZ r A0) H) (hD : va_D (fun b : Nat => s.heap.size ≤ b) (WK cB cI cJ cZ cQ q (B0 g) ++ WM cI cJ cZ r A0)) (hS : va_S (fun b : Nat => s.heap.size ≤ b) s.heap H locs) (hl : lv_has ls 4 [(0, .ref b), (1, .ref (q 0)), (2, .ref (r 0)), (3, .int (iI 0))]) : W p l e room_1 s m #[Value.ref b] below meth c H locs cells slots (lw_Z below #[Value.ref b] s) (F0 m 18 ls []) := by
  have F : LF dC dI cB cI cJ cZ cQ aL aS q r s := ⟨hK, fun B => va_D_adr (WK_adr _ _) (va_D_left hD), fun A => va_D_adr (WM_adr _ _) (va_D_right hD), fun B A => wapart_adr (WK_adr _ _) (WM_adr _ _) (wapart_of hD), hE⟩
  exact law_loop l C0 hL dC dI cB cI cJ cZ cQ aL aS q r F hcs _ 0 (B0 g) A0 H locs ls rfl ⟨by omega, by omega⟩ (LJ_0 g hg ho) ⟨va_P_left hP, va_P_right hP, hS⟩ hl
