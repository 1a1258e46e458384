def RI0 (A : St) : Prop := RI 0 A
def RI1 (A : St) : Prop := RI 1 A
theorem LX.of {A u : St} (e1 : u 1 = A 1) (e3 : u 0 3 = A 0 3) (e4 : u 0 4 = A 0 4) (e5 : u 0 5 = A 0 5) (e7 : u 0 7 = A 0 7) (h : LX A) : LX u := by
  unfold LX
  rw [e1, e3, e4, e5, e7]
  exact h
theorem RI.same {op : Int} {B V : St} (h : RI op B) (hE : EQ V (B 29) (B 31) (B 33) (B 35) (B 37) (B 39) (B 40) (B 0 46) (B 0 47) (B 0 53) (B 0 54) (B 0 56)) (e1 : V 1 = B 1) (e3 : V 0 3 = B 0 3) (e4 : V 0 4 = B 0 4) (e5 : V 0 5 = B 0 5) (e7 : V 0 7 = B 0 7) : RI op V := by
  obtain ⟨e29, e31, e33, e35, e37, e39, e40, e46, e47, e53, e54, e56⟩ := hE
  unfold RI sA LX
  rw [e1, e3, e4, e5, e7, e29, e31, e33, e35, e37, e39, e40, e46, e47, e53, e54, e56]
  exact h
theorem RI.fr {op : Int} {M N : List Nat} {A B : St} (h : RI op A) (f : fr M N A B) (h1 : [1, 29, 31, 33, 35, 37, 39, 40].all (fun j => !M.contains j) = true) (h2 : [3, 4, 5, 7, 46, 47, 53, 54, 56].all (fun k => !N.contains k) = true) : RI op B := by
  simp only [List.all_cons, List.all_nil, Bool.and_true, Bool.and_eq_true, Bool.not_eq_true'] at h1 h2
  obtain ⟨a1, a29, a31, a33, a35, a37, a39, a40⟩ := h1
  obtain ⟨b3, b4, b5, b7, b46, b47, b53, b54, b56⟩ := h2
  exact RI.same h ⟨f.1 29 (by decide) a29, f.1 31 (by decide) a31, f.1 33 (by decide) a33, f.1 35 (by decide) a35, f.1 37 (by decide) a37, f.1 39 (by decide) a39, f.1 40 (by decide) a40, f.2 46 b46, f.2 47 b47, f.2 53 b53, f.2 54 b54, f.2 56 b56⟩ (f.1 1 (by decide) a1) (f.2 3 b3) (f.2 4 b4) (f.2 5 b5) (f.2 7 b7)
theorem RI0.fr {M N : List Nat} {A B : St} (h : RI0 A) (f : fr M N A B) (h1 : [1, 29, 31, 33, 35, 37, 39, 40].all (fun j => !M.contains j) = true) (h2 : [3, 4, 5, 7, 46, 47, 53, 54, 56].all (fun k => !N.contains k) = true) : RI0 B := RI.fr h f h1 h2
theorem RI1.fr {M N : List Nat} {A B : St} (h : RI1 A) (f : fr M N A B) (h1 : [1, 29, 31, 33, 35, 37, 39, 40].all (fun j => !M.contains j) = true) (h2 : [3, 4, 5, 7, 46, 47, 53, 54, 56].all (fun k => !N.contains k) = true) : RI1 B := RI.fr h f h1 h2
theorem RI.skip {op : Int} {B V : St} (h : RI op B) (hsg : B 0 3 ≠ 0) (hE : EQ V (B 29) (B 31) (B 33) (B 35) (B 37) (B 39) (B 40) (B 0 46) (B 0 47) (B 0 53) (B 0 54) (B 0 56)) (h1' : B 0 5 ≤ V 0 4) (h2' : V 0 4 ≤ V 0 5) (hL : LX V) : RI op V := by
  obtain ⟨h1, h2, h3, h4, h5, h6⟩ := h
  obtain ⟨e29, e31, e33, e35, e37, e39, e40, e46, e47, e53, e54, e56⟩ := hE
  have hlt := h6.2.2.2.1.resolve_left hsg
  have es : sA V = sA B := by unfold sA; rw [e47, e31, e29]
  unfold RI
  rw [es, e33, e35, e37, e39, e40, e46, e47, e53, e54, e56]
  refine ⟨h1, h2, h3, h4, h5, by omega, ?_, h2', hL⟩
  have := h6.2.1
  split at this <;> split <;> omega
theorem RI.beg {B V : St} (h : RI 0 B) (hI : IM B) (hE : EQ V (B 29) (B 31) (B 33) (B 35) (up (B 37) (B 0 53 - 1).toNat 0) (B 39) (B 40) (B 0 46) (B 0 47) (B 0 53) (B 0 54) (B 0 56)) (e1 : V 1 = B 1) (e3 : V 0 3 = B 0 3) (e4 : V 0 4 = B 0 4) (e5 : V 0 5 = B 0 5) (e7 : V 0 7 = B 0 7) : RI 0 V := by
  have hd := RI.deep h hI
  obtain ⟨h1, h2, h3, h4, h5, h6⟩ := h
  obtain ⟨e29, e31, e33, e35, e37, e39, e40, e46, e47, e53, e54, e56⟩ := hE
  have es : sA V = sA B := by unfold sA; rw [e47, e31, e29]
  unfold RI
  rw [es, e33, e35, e37, e39, e40, e46, e47, e53, e54, e56, e3, e4, e5, up_same]
  exact ⟨h1, h2, h3, ⟨fun i hi => by rw [up_ne _ _ (by omega)]; exact h4.1 i hi, fun _ => rfl, fun h => absurd h (by decide)⟩, h5, h6.1, h6.2.1, h6.2.2.1, LX.of e1 e3 e4 e5 e7 h6.2.2.2⟩
theorem RI.lx {op : Int} {A : St} (h : RI op A) : LX A := h.2.2.2.2.2.2.2.2
theorem RI.lt {op : Int} {A : St} (h : RI op A) (hs : A 0 3 ≠ 0) : A 0 4 + 1 ≤ A 0 5 := h.2.2.2.2.2.2.2.2.1.resolve_left hs
theorem RI.nn {op : Int} {A : St} (h : RI op A) (h1 : op = 1) : A 37 (A 0 53 - 1).toNat = 0 := h.2.2.2.1.2.1 h1
theorem dep_lo {f : Nat → Int} {s i : Nat} {v : Int} (h : i < s) : ∀ n, dep (up f i v) s n = dep f s n
  | 0 => rfl
  | n + 1 => by
    unfold dep
    rw [dep_lo h n, up_ne _ _ (show s + n ≠ i by omega)]
theorem wfc_out {f : Nat → Int} {s i len : Nat} {v : Int} (h : i < s ∨ s + len ≤ i) (hw : wfc f s len) : wfc (up f i v) s len := by
  rcases h with h | h
  · refine ⟨by rw [dep_lo h]; exact hw.1, fun n hn => ?_⟩
    have := hw.2 n hn
    unfold okc at this ⊢
    rw [dep_lo h, up_ne _ _ (show s + n ≠ i by omega)]
    exact this
  · refine ⟨by rw [dep_out _ h]; exact hw.1, fun n hn => ?_⟩
    rw [okc_out (by omega)]
    exact hw.2 n hn
theorem CI.add {A B : St} {x : Int} (h : CI A) (hI : IM A) (e29 : B 29 = A 29) (e31 : B 31 = A 31) (e32 : B 32 = A 32) (e33 : B 33 = up (A 33) (1600 * A 0 47 + A 0 46).toNat x) (e46 : B 0 46 = A 0 46 + 1) (e47 : B 0 47 = A 0 47) (hc : A 0 46 < 1600) : CI B := by
  unfold CI
  rw [e29, e31, e32, e33, e46, e47]
  intro b i hb hi
  obtain ⟨h1, h2, h3⟩ := h b i hb hi
  have r1 : (0 : Int) ≤ A 0 47 := (hI 0 47).1
  have r2 : A 0 47 ≤ 1 := (hI 0 47).2
  have r3 : (0 : Int) ≤ A 0 46 := (hI 0 46).1
  have r4 : (0 : Int) ≤ A 31 (6 * b + i) := (hI 31 _).1
  have r5 : A 32 (6 * b + i) ≤ 1600 := (hI 32 _).2
  refine ⟨h1, fun e => by have := h2 e; omega, wfc_out ?_ h3⟩
  by_cases e : (b : Int) = A 0 47
  · have := h2 e
    right
    omega
  · by_cases e1 : (b : Int) < A 0 47
    · right
      omega
    · left
      omega
