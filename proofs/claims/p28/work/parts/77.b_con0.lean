abbrev tr_d_X12_goesOn_10 (A : St) (z : Int) (u : St) (z1 : Int) (A576 : St) : Prop := ((IM A576) ∧ ((((A576 0 8) ≤ 0) ∧ (∃ A579 : St, q_X12_joins 1 A576 A579 ∧ (∃ A584 : St, A584 = (stA (stA A579 0 53 ((A 0 53) - 1)) 0 54 ((A 0 54) - 1)) ∧ (((¬ z1 = 4) ∧ (((¬ z1 = 5) ∧ (∃ A587 : St, q_X12_ahead A584 A587 ∧ (z = 1 ∧ u = A587))) ∨ ((z1 = 5) ∧ (∃ A616 : St, A616 = (stA A584 36 ((A 0 53) - 2).toNat 2) ∧ (∃ A617 : St, q_X12_ahead A616 A617 ∧ (z = 1 ∧ u = A617)))))) ∨ ((z1 = 4) ∧ (∃ z657 : Int, z657 = A584 38 ((A 0 53) - 1).toNat ∧ (∃ A658 : St, q_X12_add z657 0 A584 A658 ∧ (∃ A663 : St, q_X12_ahead A658 A663 ∧ (z = 1 ∧ u = A663))))))))) ∨ ((¬ (A576 0 8) ≤ 0) ∧ (z = 0 ∧ u = A576))))
def d_X12_goesOn_10 (A : St) (z : Int) (u : St) (z1 : Int) (A576 : St) : Prop := tr_d_X12_goesOn_10 A z u z1 A576
theorem u_d_X12_goesOn_10 {A : St} {z : Int} {u : St} {z1 : Int} {A576 : St} (h : tr_d_X12_goesOn_10 A z u z1 A576) : d_X12_goesOn_10 A z u z1 A576 := h
abbrev tr_d_X12_goesOn_9 (z1 : Int) (A : St) (A558 : St) (z : Int) (u : St) (z563 : Int) : Prop := ((41 ≤ z563 ∧ z563 ≤ 93) ∧ (∃ z567 : Int, q_X12_isSign z563 A558 z567 ∧ (((¬ z567 = 0) ∧ (d_X12_goesOn_10 A z u z1 A558)) ∨ ((z567 = 0) ∧ (∃ A572 : St, q_X12_blame 1 (A 0 4) A558 A572 ∧ (d_X12_goesOn_10 A z u z1 A572))))))
def d_X12_goesOn_9 (z1 : Int) (A : St) (A558 : St) (z : Int) (u : St) (z563 : Int) : Prop := tr_d_X12_goesOn_9 z1 A A558 z u z563
theorem u_d_X12_goesOn_9 {z1 : Int} {A : St} {A558 : St} {z : Int} {u : St} {z563 : Int} (h : tr_d_X12_goesOn_9 z1 A A558 z u z563) : d_X12_goesOn_9 z1 A A558 z u z563 := h
abbrev tr_d_X12_goesOn_11 (A : St) (z : Int) (u : St) (A712 : St) : Prop := ((IM A712) ∧ ((((A712 0 8) ≤ 0) ∧ (∃ A716 : St, q_X12_joins 1 A712 A716 ∧ (∃ A721 : St, A721 = (stA A716 35 ((A 0 53) - 1).toNat 4) ∧ (∃ A722 : St, q_X12_ahead A721 A722 ∧ (∃ A725 : St, A725 = (stA A722 0 57 0) ∧ (z = 1 ∧ u = A725)))))) ∨ ((¬ (A712 0 8) ≤ 0) ∧ (z = 0 ∧ u = A712))))
def d_X12_goesOn_11 (A : St) (z : Int) (u : St) (A712 : St) : Prop := tr_d_X12_goesOn_11 A z u A712
theorem u_d_X12_goesOn_11 {A : St} {z : Int} {u : St} {A712 : St} (h : tr_d_X12_goesOn_11 A z u A712) : d_X12_goesOn_11 A z u A712 := h
abbrev tr_d_X12_goesOn_8 (A : St) (z : Int) (u : St) (z1 : Int) (A558 : St) : Prop := ((IM A558) ∧ (((2 ≤ z1) ∧ (((¬ z1 = 3) ∧ (((¬ z1 = 5) ∧ (d_X12_goesOn_9 z1 A A558 z u 41)) ∨ ((z1 = 5) ∧ (d_X12_goesOn_9 z1 A A558 z u 93)))) ∨ ((z1 = 3) ∧ (∃ z703 : Int, q_X12_isSign 44 A558 z703 ∧ (((¬ z703 = 0) ∧ (d_X12_goesOn_11 A z u A558)) ∨ ((z703 = 0) ∧ (∃ A708 : St, q_X12_blame 1 (A 0 4) A558 A708 ∧ (d_X12_goesOn_11 A z u A708)))))))) ∨ ((¬ 2 ≤ z1) ∧ (((¬ (A558 0 8) = 0) ∧ (z = 0 ∧ u = A558)) ∨ (((A558 0 8) = 0) ∧ (∃ A754 : St, q_X12_joins 1 A558 A754 ∧ (z = 0 ∧ u = A754)))))))
def d_X12_goesOn_8 (A : St) (z : Int) (u : St) (z1 : Int) (A558 : St) : Prop := tr_d_X12_goesOn_8 A z u z1 A558
theorem u_d_X12_goesOn_8 {A : St} {z : Int} {u : St} {z1 : Int} {A558 : St} (h : tr_d_X12_goesOn_8 A z u z1 A558) : d_X12_goesOn_8 A z u z1 A558 := h
abbrev tr_d_X12_goesOn_7 (A : St) (z : Int) (u : St) (z1 : Int) (z2 : Int) : Prop := (((z2 = 0) ∧ (d_X12_goesOn_8 A z u z1 A)) ∨ ((¬ z2 = 0) ∧ (∃ z552 : Int, z552 = A 36 ((A 0 53) - 1).toNat ∧ (((¬ z552 = 0) ∧ (d_X12_goesOn_8 A z u z1 A)) ∨ ((z552 = 0) ∧ (∃ A554 : St, q_X12_blame 1 (A 0 4) A A554 ∧ (d_X12_goesOn_8 A z u z1 A554)))))))
def d_X12_goesOn_7 (A : St) (z : Int) (u : St) (z1 : Int) (z2 : Int) : Prop := tr_d_X12_goesOn_7 A z u z1 z2
theorem u_d_X12_goesOn_7 {A : St} {z : Int} {u : St} {z1 : Int} {z2 : Int} (h : tr_d_X12_goesOn_7 A z u z1 z2) : d_X12_goesOn_7 A z u z1 z2 := h
abbrev tr_d_X12_goesOn_6 (A : St) (z : Int) (u : St) (z1 : Int) (z2 : Int) (A443 : St) : Prop := ((IM A443) ∧ ((((A443 0 8) ≤ 0) ∧ (∃ z445 : Int, q_X12_isWord 6385252 A443 z445 ∧ (((z445 = 0) ∧ (∃ A449 : St, q_X12_joins 1 A443 A449 ∧ (∃ A455 : St, q_X12_holdsBack 21 A449 A455 ∧ (∃ A458 : St, A458 = (stA (stA A455 36 ((A 0 53) - 1).toNat 0) 37 ((A 0 53) - 1).toNat 1) ∧ (∃ A459 : St, q_X12_ahead A458 A459 ∧ (∃ A462 : St, A462 = (stA A459 0 57 0) ∧ (z = 1 ∧ u = A462))))))) ∨ ((¬ z445 = 0) ∧ (∃ A499 : St, q_X12_joins 2 A443 A499 ∧ (∃ A505 : St, q_X12_holdsBack 20 A499 A505 ∧ (∃ A508 : St, A508 = (stA (stA A505 36 ((A 0 53) - 1).toNat 0) 37 ((A 0 53) - 1).toNat 1) ∧ (∃ A509 : St, q_X12_ahead A508 A509 ∧ (∃ A512 : St, A512 = (stA A509 0 57 0) ∧ (z = 1 ∧ u = A512)))))))))) ∨ ((¬ (A443 0 8) ≤ 0) ∧ (z = 0 ∧ u = A443))))
def d_X12_goesOn_6 (A : St) (z : Int) (u : St) (z1 : Int) (z2 : Int) (A443 : St) : Prop := tr_d_X12_goesOn_6 A z u z1 z2 A443
theorem u_d_X12_goesOn_6 {A : St} {z : Int} {u : St} {z1 : Int} {z2 : Int} {A443 : St} (h : tr_d_X12_goesOn_6 A z u z1 z2 A443) : d_X12_goesOn_6 A z u z1 z2 A443 := h
abbrev tr_d_X12_goesOn_5 (A : St) (z : Int) (u : St) (z1 : Int) (z2 : Int) : Prop := (∃ z436 : Int, z436 = A 36 ((A 0 53) - 1).toNat ∧ (((¬ z436 = 0) ∧ (d_X12_goesOn_6 A z u z1 z2 A)) ∨ ((z436 = 0) ∧ (∃ A439 : St, q_X12_blame 1 (A 0 4) A A439 ∧ (d_X12_goesOn_6 A z u z1 z2 A439)))))
def d_X12_goesOn_5 (A : St) (z : Int) (u : St) (z1 : Int) (z2 : Int) : Prop := tr_d_X12_goesOn_5 A z u z1 z2
theorem u_d_X12_goesOn_5 {A : St} {z : Int} {u : St} {z1 : Int} {z2 : Int} (h : tr_d_X12_goesOn_5 A z u z1 z2) : d_X12_goesOn_5 A z u z1 z2 := h
abbrev tr_d_X12_goesOn_4 (A : St) (z : Int) (u : St) (z1 : Int) (z2 : Int) : Prop := (((z2 = 0) ∧ (d_X12_goesOn_7 A z u z1 z2)) ∨ ((¬ z2 = 0) ∧ (∃ z426 : Int, q_X12_isWord 6385252 A z426 ∧ (((¬ z426 = 0) ∧ (d_X12_goesOn_5 A z u z1 z2)) ∨ ((z426 = 0) ∧ (∃ z431 : Int, q_X12_isWord 28530 A z431 ∧ (((z431 = 0) ∧ (d_X12_goesOn_7 A z u z1 z2)) ∨ ((¬ z431 = 0) ∧ (d_X12_goesOn_5 A z u z1 z2)))))))))
def d_X12_goesOn_4 (A : St) (z : Int) (u : St) (z1 : Int) (z2 : Int) : Prop := tr_d_X12_goesOn_4 A z u z1 z2
theorem u_d_X12_goesOn_4 {A : St} {z : Int} {u : St} {z1 : Int} {z2 : Int} (h : tr_d_X12_goesOn_4 A z u z1 z2) : d_X12_goesOn_4 A z u z1 z2 := h
abbrev tr_d_X12_goesOn_3 (A : St) (z : Int) (u : St) (z1 : Int) (z2 : Int) : Prop := (∃ A275 : St, q_X12_joins 5 A A275 ∧ (∃ z280 : Int, q_X12_isSign 60 A275 z280 ∧ (((z280 = 0) ∧ (∃ z284 : Int, q_X12_isSign 62 A275 z284 ∧ (((z284 = 0) ∧ (∃ A288 : St, q_X12_holdsBack 19 A275 A288 ∧ (∃ A291 : St, A291 = (stA A288 36 ((A 0 53) - 1).toNat 1) ∧ (∃ A292 : St, q_X12_ahead A291 A292 ∧ (∃ A295 : St, A295 = (stA A292 0 57 0) ∧ (z = 1 ∧ u = A295)))))) ∨ ((¬ z284 = 0) ∧ (∃ A333 : St, q_X12_holdsBack 18 A275 A333 ∧ (∃ A336 : St, A336 = (stA A333 36 ((A 0 53) - 1).toNat 1) ∧ (∃ A337 : St, q_X12_ahead A336 A337 ∧ (∃ A340 : St, A340 = (stA A337 0 57 0) ∧ (z = 1 ∧ u = A340))))))))) ∨ ((¬ z280 = 0) ∧ (∃ A378 : St, q_X12_holdsBack 17 A275 A378 ∧ (∃ A381 : St, A381 = (stA A378 36 ((A 0 53) - 1).toNat 1) ∧ (∃ A382 : St, q_X12_ahead A381 A382 ∧ (∃ A385 : St, A385 = (stA A382 0 57 0) ∧ (z = 1 ∧ u = A385)))))))))
def d_X12_goesOn_3 (A : St) (z : Int) (u : St) (z1 : Int) (z2 : Int) : Prop := tr_d_X12_goesOn_3 A z u z1 z2
theorem u_d_X12_goesOn_3 {A : St} {z : Int} {u : St} {z1 : Int} {z2 : Int} (h : tr_d_X12_goesOn_3 A z u z1 z2) : d_X12_goesOn_3 A z u z1 z2 := h
abbrev tr_d_X12_goesOn_2 (A : St) (z : Int) (u : St) (z1 : Int) (z2 : Int) : Prop := (((z2 = 0) ∧ (d_X12_goesOn_4 A z u z1 z2)) ∨ ((¬ z2 = 0) ∧ (∃ z259 : Int, z259 = A 36 ((A 0 53) - 1).toNat ∧ (((¬ z259 = 0) ∧ (d_X12_goesOn_4 A z u z1 z2)) ∨ ((z259 = 0) ∧ (∃ z261 : Int, q_X12_isSign 60 A z261 ∧ (((¬ z261 = 0) ∧ (d_X12_goesOn_3 A z u z1 z2)) ∨ ((z261 = 0) ∧ (∃ z266 : Int, q_X12_isSign 62 A z266 ∧ (((¬ z266 = 0) ∧ (d_X12_goesOn_3 A z u z1 z2)) ∨ ((z266 = 0) ∧ (∃ z270 : Int, q_X12_isSign 61 A z270 ∧ (((z270 = 0) ∧ (d_X12_goesOn_4 A z u z1 z2)) ∨ ((¬ z270 = 0) ∧ (d_X12_goesOn_3 A z u z1 z2)))))))))))))))
def d_X12_goesOn_2 (A : St) (z : Int) (u : St) (z1 : Int) (z2 : Int) : Prop := tr_d_X12_goesOn_2 A z u z1 z2
theorem u_d_X12_goesOn_2 {A : St} {z : Int} {u : St} {z1 : Int} {z2 : Int} (h : tr_d_X12_goesOn_2 A z u z1 z2) : d_X12_goesOn_2 A z u z1 z2 := h
abbrev tr_d_X12_goesOn_1 (A : St) (z : Int) (u : St) (z1 : Int) (z2 : Int) : Prop := (∃ z30 : Int, q_X12_isSign 43 A z30 ∧ (((¬ z30 = 0) ∧ (∃ A34 : St, q_X12_joins 5 A A34 ∧ (∃ z39 : Int, q_X12_isSign 43 A34 z39 ∧ (∃ A43 : St, q_X12_holdsBack 10 A34 A43 ∧ (∃ A46 : St, q_X12_ahead A43 A46 ∧ (∃ A49 : St, A49 = (stA A46 0 57 0) ∧ (z = 1 ∧ u = A49))))))) ∨ ((z30 = 0) ∧ (∃ z78 : Int, q_X12_isSign 45 A z78 ∧ (((z78 = 0) ∧ (∃ A82 : St, q_X12_joins 6 A A82 ∧ (∃ z87 : Int, q_X12_isSign 43 A82 z87 ∧ (∃ z91 : Int, q_X12_isSign 45 A82 z91 ∧ (∃ z95 : Int, q_X12_isSign 42 A82 z95 ∧ (((z95 = 0) ∧ (∃ z99 : Int, q_X12_isSign 47 A82 z99 ∧ (((z99 = 0) ∧ (∃ A103 : St, q_X12_holdsBack 14 A82 A103 ∧ (∃ A106 : St, q_X12_ahead A103 A106 ∧ (∃ A109 : St, A109 = (stA A106 0 57 0) ∧ (z = 1 ∧ u = A109))))) ∨ ((¬ z99 = 0) ∧ (∃ A138 : St, q_X12_holdsBack 13 A82 A138 ∧ (∃ A141 : St, q_X12_ahead A138 A141 ∧ (∃ A144 : St, A144 = (stA A141 0 57 0) ∧ (z = 1 ∧ u = A144)))))))) ∨ ((¬ z95 = 0) ∧ (∃ A173 : St, q_X12_holdsBack 12 A82 A173 ∧ (∃ A176 : St, q_X12_ahead A173 A176 ∧ (∃ A179 : St, A179 = (stA A176 0 57 0) ∧ (z = 1 ∧ u = A179))))))))))) ∨ ((¬ z78 = 0) ∧ (∃ A208 : St, q_X12_joins 5 A A208 ∧ (∃ z213 : Int, q_X12_isSign 43 A208 z213 ∧ (∃ z217 : Int, q_X12_isSign 45 A208 z217 ∧ (∃ A221 : St, q_X12_holdsBack 11 A208 A221 ∧ (∃ A224 : St, q_X12_ahead A221 A224 ∧ (∃ A227 : St, A227 = (stA A224 0 57 0) ∧ (z = 1 ∧ u = A227)))))))))))))
def d_X12_goesOn_1 (A : St) (z : Int) (u : St) (z1 : Int) (z2 : Int) : Prop := tr_d_X12_goesOn_1 A z u z1 z2
theorem u_d_X12_goesOn_1 {A : St} {z : Int} {u : St} {z1 : Int} {z2 : Int} (h : tr_d_X12_goesOn_1 A z u z1 z2) : d_X12_goesOn_1 A z u z1 z2 := h
abbrev tr_r_X12_goesOn (A : St) (z : Int) (u : St) : Prop := (∃ z1 : Int, z1 = A 35 ((A 0 53) - 1).toNat ∧ (∃ z2 : Int, q_X12_isTest z1 A z2 ∧ (∃ z5 : Int, z5 = A 36 ((A 0 53) - 1).toNat ∧ (((2 ≤ z5) ∧ (d_X12_goesOn_2 A z u z1 z2)) ∨ ((¬ 2 ≤ z5) ∧ (∃ z8 : Int, q_X12_isSign 43 A z8 ∧ (((¬ z8 = 0) ∧ (d_X12_goesOn_1 A z u z1 z2)) ∨ ((z8 = 0) ∧ (∃ z13 : Int, q_X12_isSign 45 A z13 ∧ (((¬ z13 = 0) ∧ (d_X12_goesOn_1 A z u z1 z2)) ∨ ((z13 = 0) ∧ (∃ z17 : Int, q_X12_isSign 42 A z17 ∧ (((¬ z17 = 0) ∧ (d_X12_goesOn_1 A z u z1 z2)) ∨ ((z17 = 0) ∧ (∃ z21 : Int, q_X12_isSign 47 A z21 ∧ (((¬ z21 = 0) ∧ (d_X12_goesOn_1 A z u z1 z2)) ∨ ((z21 = 0) ∧ (∃ z25 : Int, q_X12_isSign 37 A z25 ∧ (((z25 = 0) ∧ (d_X12_goesOn_2 A z u z1 z2)) ∨ ((¬ z25 = 0) ∧ (d_X12_goesOn_1 A z u z1 z2)))))))))))))))))))))
def r_X12_goesOn (A : St) (z : Int) (u : St) : Prop := tr_r_X12_goesOn A z u
theorem u_r_X12_goesOn {A : St} {z : Int} {u : St} (h : tr_r_X12_goesOn A z u) : r_X12_goesOn A z u := h
def q_X12_goesOn (A : St) (z : Int) (u : St) : Prop := r_X12_goesOn A z u ∧ IM u ∧ fr [33, 34, 35, 36, 37, 40] [3, 4, 5, 6, 7, 8, 9, 46, 53, 54, 56, 57] A u ∧ CI u ∧ ((0 ≤ z ∧ z ≤ 1) ∧ (Hd (u 0 8 = 0 → (z = 1 → RI (u 0 57) u ∧ (PR u ∧ SP u) ∧ A 0 4 + 1 ≤ u 0 4) ∧ (z = 0 → DP (u 33) (sA u) (1600 * u 0 47 + u 0 46) 1 ∧ CB u ∧ A 0 4 ≤ u 0 4))))
def ws_mb_X12_goesOn : List Cond := .code yX12_goesOn cX12_goesOn 5 (some .boolean) :: WX
set_option maxHeartbeats 4000000 in
set_option maxRecDepth 100000 in
theorem mb_X12_goesOn_c74 (l : Launch) (dC : Nat → ClassId) (dI : Nat → Nat → Nat) (cB cI cJ cZ cQ : ClassId) (q : Nat → Nat) (A : St) (hI : IM A) (hp0 : RI 1 A) (hp1 : A 0 8 = 0) (hp2 : PR A) (hp3 : A 0 57 = 1) (hp4 : SP A) (hcCI : CI A) (p : Program) (e : Env) (s : State) (m : MethodId) (below : List Frame) (meth : Method) (c : Code) (Q : State → Prop) (AS : Nat → Prop) (hx : p.tables.exec = Jvm.exec) (hb : c.code = cX12_goesOn) (hml : c.maxLocals = 5) (hown : s.vm.findClass RX12 = some m.cls) (hts : ∀ w ∈ ws_mb_X12_goesOn, w.before [.ref (q 0)].toArray s = true) (hK : va_K (dC, dI) vwCl (tyA cB cI cJ cZ cQ) s) (hDD : ∀ A', va_D AS (WM cI cJ cZ q A')) (hA0 : ∀ b : Nat, s.heap.size ≤ b → AS b) (RET : ∀ (z : Int) (u : St) (H : Heap) (locs : List Loc) (pc : Nat) (ls : Array Slot), ((fun z u => r_X12_goesOn A z u ∧ IM u ∧ fr [33, 34, 35, 36, 37, 40] [3, 4, 5, 6, 7, 8, 9, 46, 53, 54, 56, 57] A u ∧ CI u ∧ ((0 ≤ z ∧ z ≤ 1) ∧ (Hd (u 0 8 = 0 → (z = 1 → RI (u 0 57) u ∧ (PR u ∧ SP u) ∧ A 0 4 + 1 ≤ u 0 4) ∧ (z = 0 → DP (u 33) (sA u) (1600 * u 0 47 + u 0 46) 1 ∧ CB u ∧ A 0 4 ≤ u 0 4))))) z u) → va_P (dC, dI) vwCl (WM cI cJ cZ q u) H → va_S AS s.heap H locs → decode cX12_goesOn pc = .ok (.ireturn, 1) → W p l e (headSpec ws_mb_X12_goesOn ({ frames := 2, cells := 0, slots := 0, locals := 47 } : Room)).room s m [.ref (q 0)].toArray below meth c H locs 0 0 Q (F0 m pc ls [.int (iI z)])) (H : Heap) (locs : List Loc) (ls : Array Slot) (z1 z2 : Int) (rz1 : (0 : Int) ≤ z1 ∧ z1 ≤ 5) (rz2 : (0 : Int) ≤ z2 ∧ z2 ≤ 1) (hz1 : z1 = A 35 ((A 0 53) - 1).toNat) (hs3 : A 0 3 = 3) (hk1 : ∀ (z : Int) (u : St), (d_X12_goesOn_1 A z u z1 z2) → r_X12_goesOn A z u) (hP : va_P (dC, dI) vwCl (WM cI cJ cZ q A) H) (hS : va_S AS s.heap H locs) (hl : lv_has ls 5 [(0, .ref (q 0)), (1, .int (iI ((A 0 53) - 1))), (2, .int (iI z1)), (3, .int (iI z2))]) : W p l e (headSpec ws_mb_X12_goesOn ({ frames := 2, cells := 0, slots := 0, locals := 47 } : Room)).room s m [.ref (q 0)].toArray below meth c H locs 0 0 Q (F0 m 74 ls []) := by
  have hiX12 : ∀ w ∈ u_ws RX12 TX12 85, w ∈ ws_mb_X12_goesOn := fun w h => List.mem_cons_of_mem _ (wx_lay w h)
  have hI0 := hI
  have hdp := RI.deep hp0 hI0
  have hrm := RI.room hp0 hI0
  have r_A_0_3 : (0 : Int) ≤ (A 0 3) ∧ (A 0 3) ≤ 3 := hI 0 3
  have r_A_0_4 : (0 : Int) ≤ (A 0 4) ∧ (A 0 4) ≤ 1600 := hI 0 4
  have r_A_0_5 : (0 : Int) ≤ (A 0 5) ∧ (A 0 5) ≤ 1600 := hI 0 5
  have r_A_0_7 : (-9223372036854775808 : Int) ≤ (A 0 7) ∧ (A 0 7) ≤ 9223372036854775807 := hI 0 7
  have r_A_0_8 : (0 : Int) ≤ (A 0 8) ∧ (A 0 8) ≤ 5 := hI 0 8
  have r_A_0_46 : (0 : Int) ≤ (A 0 46) ∧ (A 0 46) ≤ 1600 := hI 0 46
  have r_A_0_47 : (0 : Int) ≤ (A 0 47) ∧ (A 0 47) ≤ 1 := hI 0 47
  have r_A_0_53 : (0 : Int) ≤ (A 0 53) ∧ (A 0 53) ≤ 20 := hI 0 53
  have r_A_0_54 : (0 : Int) ≤ (A 0 54) ∧ (A 0 54) ≤ 8 := hI 0 54
  have r_A_0_56 : (0 : Int) ≤ (A 0 56) ∧ (A 0 56) ≤ 500 := hI 0 56
  have hop := hp0.1
  refine lv_aload_n hx hb (dk_at dkX12_goesOn_2 7 rfl) rfl (lv_at hl 0 rfl) ?_
  refine lv_aload_n hx hb (dk_at dkX12_goesOn_2 8 rfl) rfl (lv_at hl 0 rfl) ?_
  refine lv_bipush (v := iI 43) hx hb (dk_at dkX12_goesOn_2 9 rfl) (by decide +kernel) ?_
  have r_A_0_6 : (-2147483648 : Int) ≤ (A 0 6) ∧ (A 0 6) ≤ 2147483647 := hI 0 6
  refine x_calli (As := [.int (iI 43)]) (rest := [.ref (q 0)]) ⟨hx, hb, hml, hown, hts⟩ (mb_X12_isSign l dC dI cB cI cJ cZ cQ q _ 43 hI ⟨by decide, by decide⟩) (cwV 1 hts (goodV wlq_0_37 wlq_0_38 wlq_0_39 wlq_0_8 wlq_0_34) rfl rfl rfl (by decide +kernel) ⟨Nat.le_of_ble_eq_true rfl, Nat.le_of_ble_eq_true rfl⟩) hK hDD hA0 hP hS 0 12 wm0 rfl rfl hl.1 (Nat.le_of_ble_eq_true rfl) (dk_at dkX12_goesOn_2 10 rfl) (fun z30 A31 H locs hw32 hP hS => ?_)
  obtain ⟨rfl, hw32⟩ := hw32
  have ghw32 : q_X12_isSign 43 A z30 := hw32
  have hw32 := hw32.2
  have rz30 : 0 ≤ z30 ∧ z30 ≤ 1 := hw32.1
  replace hw32 := Hd.mk hw32.2
  refine lv_if_ne (tgt := 93) hx hb (dk_at dkX12_goesOn_2 11 rfl) (by decide) (fun c33 => ?_) (fun c33 => ?_)
  · have c33 : ¬ z30 = 0 := mt (i_eq0 (rb rz30 (by decide) (by decide))).mpr c33
    have hw32b := hw32.out.mp (by omega)
    refine lv_iconst (v := iI 5) hx hb (dk_at dkX12_goesOn_3 0 rfl) (by decide +kernel) ?_
    refine lv_goto (tgt := 99) hx hb (dk_at dkX12_goesOn_3 1 rfl) (by decide) ?_
    refine x_callv (As := [.int (iI 5)]) (rest := []) ⟨hx, hb, hml, hown, hts⟩ (mb_X12_joins l dC dI cB cI cJ cZ cQ q _ 5 hI ⟨by decide, by decide⟩ (by exact hp0) hcCI hp4) (cwV 1 hts (goodV wlq_2_10 wlq_2_11 wlq_2_12 wlq_0_8 wlq_1_34) rfl rfl rfl (by decide +kernel) ⟨Nat.le_of_ble_eq_true rfl, Nat.le_of_ble_eq_true rfl⟩) hK hDD hA0 hP hS 0 12 wm0 rfl rfl hl.1 (Nat.le_of_ble_eq_true rfl) (dk_at dkX12_goesOn_3 3 rfl) (fun A34 H locs hw35 hP hS => ?_)
    have ghw35 : q_X12_joins 5 A A34 := hw35
    obtain ⟨_, hI, hf36, hw35⟩ := hw35
    obtain ⟨hc37, hw35⟩ := hw35
    obtain ⟨hc38, hw35⟩ := hw35
    have e_A34_53 : A34 0 53 = (A 0 53) := (hf36.2 53 rfl)
    have r_A34_0_56 : (0 : Int) ≤ (A34 0 56) ∧ (A34 0 56) ≤ 500 := hI 0 56
    have hj1 := hw35.1
    have hj2 := Hd.mk hw35.2
    clear hw35
    have hIj := hI
    have hrj := RI.room hj1 hIj
    have e_A34_3 : A34 0 3 = (A 0 3) := (hf36.2 3 rfl)
    have e_A34_4 : A34 0 4 = (A 0 4) := (hf36.2 4 rfl)
    have e_A34_5 : A34 0 5 = (A 0 5) := (hf36.2 5 rfl)
    have e_A34_7 : A34 0 7 = (A 0 7) := (hf36.2 7 rfl)
    have e_A34_8 : A34 0 8 = (A 0 8) := (hf36.2 8 rfl)
    have e_A34_47 : A34 0 47 = (A 0 47) := (hf36.2 47 rfl)
    have e_A34_54 : A34 0 54 = (A 0 54) := (hf36.2 54 rfl)
    have r_A34_0_46 : (0 : Int) ≤ (A34 0 46) ∧ (A34 0 46) ≤ 1600 := hI 0 46
    refine lv_aload_n hx hb (dk_at dkX12_goesOn_3 4 rfl) rfl (lv_at hl 0 rfl) ?_
    refine lv_aload_n hx hb (dk_at dkX12_goesOn_3 5 rfl) rfl (lv_at hl 0 rfl) ?_
    refine lv_bipush (v := iI 43) hx hb (dk_at dkX12_goesOn_3 6 rfl) (by decide +kernel) ?_
    have e_A34_6 : A34 0 6 = (A 0 6) := (hf36.2 6 rfl)
    refine x_calli (As := [.int (iI 43)]) (rest := [.ref (q 0)]) ⟨hx, hb, hml, hown, hts⟩ (mb_X12_isSign l dC dI cB cI cJ cZ cQ q _ 43 hI ⟨by decide, by decide⟩) (cwV 1 hts (goodV wlq_0_37 wlq_0_38 wlq_0_39 wlq_0_8 wlq_0_34) rfl rfl rfl (by decide +kernel) ⟨Nat.le_of_ble_eq_true rfl, Nat.le_of_ble_eq_true rfl⟩) hK hDD hA0 hP hS 0 12 wm0 rfl rfl hl.1 (Nat.le_of_ble_eq_true rfl) (dk_at dkX12_goesOn_3 7 rfl) (fun z39 A40 H locs hw41 hP hS => ?_)
    obtain ⟨rfl, hw41⟩ := hw41
    have ghw41 : q_X12_isSign 43 A34 z39 := hw41
    have hw41 := hw41.2
    have rz39 : 0 ≤ z39 ∧ z39 ≤ 1 := hw41.1
    replace hw41 := Hd.mk hw41.2
    have ez39 : z39 = z30 := by have a := hw32.out; have b := hw41.out; omega
    refine lv_if_eq (tgt := 117) hx hb (dk_at dkX12_goesOn_3 8 rfl) (by decide) (fun c42 => False.elim (by have c42 : z39 = 0 := (i_eq0 (rb rz39 (by decide) (by decide))).mp c42; omega)) (fun _ => ?_)
    refine lv_bipush (v := iI 10) hx hb (dk_at dkX12_goesOn_3 9 rfl) (by decide +kernel) ?_
    refine lv_goto (tgt := 161) hx hb (dk_at dkX12_goesOn_3 10 rfl) (by decide) ?_
    refine x_callv (As := [.int (iI 10)]) (rest := []) ⟨hx, hb, hml, hown, hts⟩ (mb_X12_holdsBack l dC dI cB cI cJ cZ cQ q _ 10 hI ⟨by decide, by decide⟩ (by omega)) (cwV 1 hts (goodV wlq_2_2 wlq_2_3 wlq_2_4 wlq_0_8 wlq_1_44) rfl rfl rfl (by decide +kernel) ⟨Nat.le_of_ble_eq_true rfl, Nat.le_of_ble_eq_true rfl⟩) hK hDD hA0 hP hS 0 12 wm0 rfl rfl hl.1 (Nat.le_of_ble_eq_true rfl) (dk_at dkX12_goesOn_4 14 rfl) (fun A43 H locs hw44 hP hS => ?_)
    have ghw44 : q_X12_holdsBack 10 A34 A43 := hw44
    obtain ⟨_, hI, hf45, hw44⟩ := hw44
    have r_A43_0_56 : (0 : Int) ≤ (A43 0 56) ∧ (A43 0 56) ≤ 500 := hI 0 56
    refine lv_aload_n hx hb (dk_at dkX12_goesOn_4 15 rfl) rfl (lv_at hl 0 rfl) ?_
    have e_A43_4 : A43 0 4 = (A 0 4) := (hf45.2 4 rfl).trans e_A34_4
    have e_A43_5 : A43 0 5 = (A 0 5) := (hf45.2 5 rfl).trans e_A34_5
    have e_A43_8 : A43 0 8 = (A 0 8) := (hf45.2 8 rfl).trans e_A34_8
    refine x_callv (As := []) (rest := []) ⟨hx, hb, hml, hown, hts⟩ (mb_X12_ahead l dC dI cB cI cJ cZ cQ q _ hI) (cwV 0 hts (goodV wlq_0_40 wlq_0_41 wlq_0_42 wlq_0_8 wlq_0_20) rfl rfl rfl (by decide +kernel) ⟨Nat.le_of_ble_eq_true rfl, Nat.le_of_ble_eq_true rfl⟩) hK hDD hA0 hP hS 0 12 wm0 rfl rfl hl.1 (Nat.le_of_ble_eq_true rfl) (dk_at dkX12_goesOn_5 0 rfl) (fun A46 H locs hw47 hP hS => ?_)
    have ghw47 : q_X12_ahead A43 A46 := hw47
    obtain ⟨_, hI, hf48, hw47⟩ := hw47
    have r_A46_0_3 : (0 : Int) ≤ (A46 0 3) ∧ (A46 0 3) ≤ 3 := hI 0 3
    have r_A46_0_4 : (0 : Int) ≤ (A46 0 4) ∧ (A46 0 4) ≤ 1600 := hI 0 4
    have r_A46_0_5 : (0 : Int) ≤ (A46 0 5) ∧ (A46 0 5) ≤ 1600 := hI 0 5
    have r_A46_0_8 : (0 : Int) ≤ (A46 0 8) ∧ (A46 0 8) ≤ 5 := hI 0 8
    have hw47x := hw47.1
    have hw47y := hw47.2.1
    replace hw47 := Hd.mk hw47
    refine lv_aload_n hx hb (dk_at dkX12_goesOn_5 1 rfl) rfl (lv_at hl 0 rfl) ?_
    refine lv_iconst (v := iI 0) hx hb (dk_at dkX12_goesOn_5 2 rfl) (by decide +kernel) ?_
    refine x_put (D := (dC, dI)) (ci := 12) (v := .int (iI 0)) (ty := .boolean) (C := RX12) (T := TX12) (N := 85) hx hb hts hiX12 tyX12 tyX12_ok nmX12 hown hK hP hDD hS 0 wm0 rfl 57 (by decide) (hts _ (List.mem_cons_of_mem _ wlq_2_9)) (fun _ h9 => h9) rfl (by decide +kernel) (by decide +kernel) rfl (Nat.le_of_ble_eq_true rfl) (dk_at dkX12_goesOn_5 3 rfl) (wf57 (v := 0)) (fun H locs hP hS => ?_)
    have hI := hI.st (j := 0) (i := 57) (v := 0) (show (0 : Int) ≤ 0 ∧ 0 ≤ 1 from (by omega))
    refine lv_iconst (v := iI 1) hx hb (dk_at dkX12_goesOn_5 4 rfl) (by decide +kernel) ?_
    obtain ⟨A49, hA49⟩ : ∃ A49 : St, A49 = (stA A46 0 57 0) := ⟨_, rfl⟩
    rw [← hA49] at hP hI
    have e_A49_4 : A49 0 4 = (A46 0 4) := by rw [hA49]; exact rfl
    have e_A49_5 : A49 0 5 = (A46 0 5) := by rw [hA49]; exact rfl
    have e_A49_8 : A49 0 8 = (A46 0 8) := by rw [hA49]; exact rfl
    have e_A43_46 : A43 0 46 = (A34 0 46) := (hf45.2 46 rfl)
    have e_A46_46 : A46 0 46 = (A34 0 46) := (hf48.2 46 rfl).trans e_A43_46
    have e_A49_46 : A49 0 46 = (A34 0 46) := by rw [hA49]; exact e_A46_46
    have e_A43_47 : A43 0 47 = (A 0 47) := (hf45.2 47 rfl).trans e_A34_47
    have e_A46_47 : A46 0 47 = (A 0 47) := (hf48.2 47 rfl).trans e_A43_47
    have e_A49_47 : A49 0 47 = (A 0 47) := by rw [hA49]; exact e_A46_47
    have e_A49_57 : A49 0 57 = 0 := by rw [hA49]; rfl
    have ca50 : A34 35 = A 35 := (hf36.1 35 (by decide) rfl)
    have ca51 : A49 1 = A46 1 := by rw [hA49]; exact rfl
    have e_A49_3 : A49 0 3 = (A46 0 3) := by rw [hA49]; exact rfl
    have e_A49_7 : A49 0 7 = (A46 0 7) := by rw [hA49]; exact rfl
    have hlt := RI.lt hp0 (by omega)
    have ca52 : A46 40 = A43 40 := (hf48.1 40 (by decide) rfl)
    have ca53 : A49 40 = A43 40 := by rw [hA49]; exact ca52
    have e_A46_56 : A46 0 56 = (A43 0 56) := (hf48.2 56 rfl)
    have e_A49_56 : A49 0 56 = (A43 0 56) := by rw [hA49]; exact e_A46_56
    have ca54 : A43 29 = A34 29 := (hf45.1 29 (by decide) rfl)
    have ca55 : A46 29 = A34 29 := (hf48.1 29 (by decide) rfl).trans ca54
    have ca56 : A49 29 = A34 29 := by rw [hA49]; exact ca55
    have ca57 : A43 31 = A34 31 := (hf45.1 31 (by decide) rfl)
    have ca58 : A46 31 = A34 31 := (hf48.1 31 (by decide) rfl).trans ca57
    have ca59 : A49 31 = A34 31 := by rw [hA49]; exact ca58
    have ca60 : A43 33 = A34 33 := (hf45.1 33 (by decide) rfl)
    have ca61 : A46 33 = A34 33 := (hf48.1 33 (by decide) rfl).trans ca60
    have ca62 : A49 33 = A34 33 := by rw [hA49]; exact ca61
    have ca63 : A43 35 = A34 35 := (hf45.1 35 (by decide) rfl)
    have ca64 : A46 35 = A34 35 := (hf48.1 35 (by decide) rfl).trans ca63
    have ca65 : A49 35 = A34 35 := by rw [hA49]; exact ca64
    have ca66 : A43 37 = A34 37 := (hf45.1 37 (by decide) rfl)
    have ca67 : A46 37 = A34 37 := (hf48.1 37 (by decide) rfl).trans ca66
    have ca68 : A49 37 = A34 37 := by rw [hA49]; exact ca67
    have ca69 : A43 39 = A34 39 := (hf45.1 39 (by decide) rfl)
    have ca70 : A46 39 = A34 39 := (hf48.1 39 (by decide) rfl).trans ca69
    have ca71 : A49 39 = A34 39 := by rw [hA49]; exact ca70
    have e_A43_53 : A43 0 53 = (A 0 53) := (hf45.2 53 rfl).trans e_A34_53
    have e_A46_53 : A46 0 53 = (A 0 53) := (hf48.2 53 rfl).trans e_A43_53
    have e_A49_53 : A49 0 53 = (A 0 53) := by rw [hA49]; exact e_A46_53
    have e_A43_54 : A43 0 54 = (A 0 54) := (hf45.2 54 rfl).trans e_A34_54
    have e_A46_54 : A46 0 54 = (A 0 54) := (hf48.2 54 rfl).trans e_A43_54
    have e_A49_54 : A49 0 54 = (A 0 54) := by rw [hA49]; exact e_A46_54
    have ca72 : A43 36 = A34 36 := (hf45.1 36 (by decide) rfl)
    have ca73 : A46 36 = A34 36 := (hf48.1 36 (by decide) rfl).trans ca72
    have ca74 : A49 36 = A34 36 := by rw [hA49]; exact ca73
    have ca75 : A43 39 = A34 39 := (hf45.1 39 (by decide) rfl)
    have ca76 : A46 39 = A34 39 := (hf48.1 39 (by decide) rfl).trans ca75
    have ca77 : A49 39 = A34 39 := by rw [hA49]; exact ca76
    exact RET 1 _ _ _ _ _ ⟨hk1 _ _ (u_d_X12_goesOn_1 ⟨z30, ghw32, (Or.inl ⟨c33, ⟨A34, ghw35, ⟨z39, ghw41, ⟨A43, ghw44, ⟨A46, ghw47, ⟨A49, hA49, ⟨rfl, rfl⟩⟩⟩⟩⟩⟩⟩)⟩), hI, fr_def hA49 (fr.sf (fr.trans (fr.trans (fr.trans (fr.rf) hf36 rfl rfl) hf45 rfl rfl) hf48 rfl rfl) rfl), (CI.fr (CI.fr (CI.fr hc37 hf45 rfl rfl) hf48 rfl rfl) (fr_def hA49 (fr.sf (fr.rf (M := []) (N := [57])) rfl)) rfl rfl), ⟨by decide, Hd.mk (fun h0 => ⟨fun _ => ⟨by rw [e_A49_57]; exact RI.op (x := 10) (r37 := A34 37) hj1 hIj (by rw [e_A34_3]; rw [hs3]; decide) (by decide) (hj2.out.imp id (fun t => by rw [show rk 10 = 5 by decide]; exact t)) (fun _ _ => rfl) (fun h => absurd h (by rw [RI.nn hj1 rfl]; decide)) ⟨ca56, ca59, ca62, ca65, ca68, ca71, (ca53.trans hw44.2), e_A49_46, (e_A49_47.trans e_A34_47.symm), (e_A49_53.trans e_A34_53.symm), (e_A49_54.trans e_A34_54.symm), (e_A49_56.trans hw44.1)⟩ (by rw [← (e_A43_5.trans e_A34_5.symm), e_A49_4]; exact hw47x) (by rw [e_A49_4, e_A49_5]; exact hw47y) (LX.of ca51 e_A49_3 e_A49_4 e_A49_5 e_A49_7 hw47.out.2.2.1), ⟨(PR.fr (PR.fr (PR.fr (PR.fr hp2 hf36 rfl rfl) hf45 rfl rfl) hf48 rfl rfl) (fr_def hA49 (fr.sf (fr.rf (M := []) (N := [57])) rfl)) rfl rfl), SP.push (x := 10) (ph := A34 36 (A34 0 53 - 1).toNat) (r36 := A34 36) hc38 hIj hj1.2.1 (RI.deep hj1 hIj).1 ca74 (fun _ _ => rfl) rfl ca77 (ca53.trans hw44.2) (e_A49_53.trans e_A34_53.symm) (e_A49_56.trans hw44.1) ((hj2.out.imp id (fun t => by rw [show rk 10 = 5 by decide]; exact t)).imp id Int.le_of_lt) (fun h => ⟨by decide, Or.inl h⟩)⟩, by omega⟩, fun h => absurd h (by decide)⟩)⟩⟩ hP hS (dk_at dkX12_goesOn_5 5 rfl)
  · have c33 : z30 = 0 := (i_eq0 (rb rz30 (by decide) (by decide))).mp c33
    refine lv_aload_n hx hb (dk_at dkX12_goesOn_2 12 rfl) rfl (lv_at hl 0 rfl) ?_
    refine lv_bipush (v := iI 45) hx hb (dk_at dkX12_goesOn_2 13 rfl) (by decide +kernel) ?_
    refine x_calli (As := [.int (iI 45)]) (rest := [.ref (q 0)]) ⟨hx, hb, hml, hown, hts⟩ (mb_X12_isSign l dC dI cB cI cJ cZ cQ q _ 45 hI ⟨by decide, by decide⟩) (cwV 1 hts (goodV wlq_0_37 wlq_0_38 wlq_0_39 wlq_0_8 wlq_0_34) rfl rfl rfl (by decide +kernel) ⟨Nat.le_of_ble_eq_true rfl, Nat.le_of_ble_eq_true rfl⟩) hK hDD hA0 hP hS 0 12 wm0 rfl rfl hl.1 (Nat.le_of_ble_eq_true rfl) (dk_at dkX12_goesOn_2 14 rfl) (fun z78 A79 H locs hw80 hP hS => ?_)
    obtain ⟨rfl, hw80⟩ := hw80
    have ghw80 : q_X12_isSign 45 A z78 := hw80
    have hw80 := hw80.2
    have rz78 : 0 ≤ z78 ∧ z78 ≤ 1 := hw80.1
    replace hw80 := Hd.mk hw80.2
    refine lv_if_eq (tgt := 97) hx hb (dk_at dkX12_goesOn_2 15 rfl) (by decide) (fun c81 => ?_) (fun c81 => ?_)
    · have c81 : z78 = 0 := (i_eq0 (rb rz78 (by decide) (by decide))).mp c81
      refine lv_bipush (v := iI 6) hx hb (dk_at dkX12_goesOn_3 2 rfl) (by decide +kernel) ?_
      refine x_callv (As := [.int (iI 6)]) (rest := []) ⟨hx, hb, hml, hown, hts⟩ (mb_X12_joins l dC dI cB cI cJ cZ cQ q _ 6 hI ⟨by decide, by decide⟩ (by exact hp0) hcCI hp4) (cwV 1 hts (goodV wlq_2_10 wlq_2_11 wlq_2_12 wlq_0_8 wlq_1_34) rfl rfl rfl (by decide +kernel) ⟨Nat.le_of_ble_eq_true rfl, Nat.le_of_ble_eq_true rfl⟩) hK hDD hA0 hP hS 0 12 wm0 rfl rfl hl.1 (Nat.le_of_ble_eq_true rfl) (dk_at dkX12_goesOn_3 3 rfl) (fun A82 H locs hw83 hP hS => ?_)
      have ghw83 : q_X12_joins 6 A A82 := hw83
      obtain ⟨_, hI, hf84, hw83⟩ := hw83
      obtain ⟨hc85, hw83⟩ := hw83
      obtain ⟨hc86, hw83⟩ := hw83
      have e_A82_53 : A82 0 53 = (A 0 53) := (hf84.2 53 rfl)
      have r_A82_0_56 : (0 : Int) ≤ (A82 0 56) ∧ (A82 0 56) ≤ 500 := hI 0 56
      have hj1 := hw83.1
      have hj2 := Hd.mk hw83.2
      clear hw83
      have hIj := hI
      have hrj := RI.room hj1 hIj
      have e_A82_3 : A82 0 3 = (A 0 3) := (hf84.2 3 rfl)
      have e_A82_4 : A82 0 4 = (A 0 4) := (hf84.2 4 rfl)
      have e_A82_5 : A82 0 5 = (A 0 5) := (hf84.2 5 rfl)
      have e_A82_7 : A82 0 7 = (A 0 7) := (hf84.2 7 rfl)
      have e_A82_8 : A82 0 8 = (A 0 8) := (hf84.2 8 rfl)
      have e_A82_47 : A82 0 47 = (A 0 47) := (hf84.2 47 rfl)
      have e_A82_54 : A82 0 54 = (A 0 54) := (hf84.2 54 rfl)
      have r_A82_0_46 : (0 : Int) ≤ (A82 0 46) ∧ (A82 0 46) ≤ 1600 := hI 0 46
      refine lv_aload_n hx hb (dk_at dkX12_goesOn_3 4 rfl) rfl (lv_at hl 0 rfl) ?_
      refine lv_aload_n hx hb (dk_at dkX12_goesOn_3 5 rfl) rfl (lv_at hl 0 rfl) ?_
      refine lv_bipush (v := iI 43) hx hb (dk_at dkX12_goesOn_3 6 rfl) (by decide +kernel) ?_
      have e_A82_6 : A82 0 6 = (A 0 6) := (hf84.2 6 rfl)
      refine x_calli (As := [.int (iI 43)]) (rest := [.ref (q 0)]) ⟨hx, hb, hml, hown, hts⟩ (mb_X12_isSign l dC dI cB cI cJ cZ cQ q _ 43 hI ⟨by decide, by decide⟩) (cwV 1 hts (goodV wlq_0_37 wlq_0_38 wlq_0_39 wlq_0_8 wlq_0_34) rfl rfl rfl (by decide +kernel) ⟨Nat.le_of_ble_eq_true rfl, Nat.le_of_ble_eq_true rfl⟩) hK hDD hA0 hP hS 0 12 wm0 rfl rfl hl.1 (Nat.le_of_ble_eq_true rfl) (dk_at dkX12_goesOn_3 7 rfl) (fun z87 A88 H locs hw89 hP hS => ?_)
      obtain ⟨rfl, hw89⟩ := hw89
      have ghw89 : q_X12_isSign 43 A82 z87 := hw89
      have hw89 := hw89.2
      have rz87 : 0 ≤ z87 ∧ z87 ≤ 1 := hw89.1
      replace hw89 := Hd.mk hw89.2
      have ez87 : z87 = z30 := by have a := hw32.out; have b := hw89.out; omega
      refine lv_if_eq (tgt := 117) hx hb (dk_at dkX12_goesOn_3 8 rfl) (by decide) (fun _ => ?_) (fun c90 => False.elim (by have c90 : ¬ z87 = 0 := mt (i_eq0 (rb rz87 (by decide) (by decide))).mpr c90; omega))
      refine lv_aload_n hx hb (dk_at dkX12_goesOn_3 11 rfl) rfl (lv_at hl 0 rfl) ?_
      refine lv_bipush (v := iI 45) hx hb (dk_at dkX12_goesOn_3 12 rfl) (by decide +kernel) ?_
      refine x_calli (As := [.int (iI 45)]) (rest := [.ref (q 0)]) ⟨hx, hb, hml, hown, hts⟩ (mb_X12_isSign l dC dI cB cI cJ cZ cQ q _ 45 hI ⟨by decide, by decide⟩) (cwV 1 hts (goodV wlq_0_37 wlq_0_38 wlq_0_39 wlq_0_8 wlq_0_34) rfl rfl rfl (by decide +kernel) ⟨Nat.le_of_ble_eq_true rfl, Nat.le_of_ble_eq_true rfl⟩) hK hDD hA0 hP hS 0 12 wm0 rfl rfl hl.1 (Nat.le_of_ble_eq_true rfl) (dk_at dkX12_goesOn_3 13 rfl) (fun z91 A92 H locs hw93 hP hS => ?_)
      obtain ⟨rfl, hw93⟩ := hw93
      have ghw93 : q_X12_isSign 45 A82 z91 := hw93
      have hw93 := hw93.2
      have rz91 : 0 ≤ z91 ∧ z91 ≤ 1 := hw93.1
      replace hw93 := Hd.mk hw93.2
      have ez91 : z91 = z78 := by have a := hw80.out; have b := hw93.out; omega
      refine lv_if_eq (tgt := 131) hx hb (dk_at dkX12_goesOn_3 14 rfl) (by decide) (fun _ => ?_) (fun c94 => False.elim (by have c94 : ¬ z91 = 0 := mt (i_eq0 (rb rz91 (by decide) (by decide))).mpr c94; omega))
      refine lv_aload_n hx hb (dk_at dkX12_goesOn_4 1 rfl) rfl (lv_at hl 0 rfl) ?_
      refine lv_bipush (v := iI 42) hx hb (dk_at dkX12_goesOn_4 2 rfl) (by decide +kernel) ?_
      refine x_calli (As := [.int (iI 42)]) (rest := [.ref (q 0)]) ⟨hx, hb, hml, hown, hts⟩ (mb_X12_isSign l dC dI cB cI cJ cZ cQ q _ 42 hI ⟨by decide, by decide⟩) (cwV 1 hts (goodV wlq_0_37 wlq_0_38 wlq_0_39 wlq_0_8 wlq_0_34) rfl rfl rfl (by decide +kernel) ⟨Nat.le_of_ble_eq_true rfl, Nat.le_of_ble_eq_true rfl⟩) hK hDD hA0 hP hS 0 12 wm0 rfl rfl hl.1 (Nat.le_of_ble_eq_true rfl) (dk_at dkX12_goesOn_4 3 rfl) (fun z95 A96 H locs hw97 hP hS => ?_)
      obtain ⟨rfl, hw97⟩ := hw97
      have ghw97 : q_X12_isSign 42 A82 z95 := hw97
      have hw97 := hw97.2
      have rz95 : 0 ≤ z95 ∧ z95 ≤ 1 := hw97.1
      replace hw97 := Hd.mk hw97.2
      refine lv_if_eq (tgt := 145) hx hb (dk_at dkX12_goesOn_4 4 rfl) (by decide) (fun c98 => ?_) (fun c98 => ?_)
      · have c98 : z95 = 0 := (i_eq0 (rb rz95 (by decide) (by decide))).mp c98
        refine lv_aload_n hx hb (dk_at dkX12_goesOn_4 7 rfl) rfl (lv_at hl 0 rfl) ?_
        refine lv_bipush (v := iI 47) hx hb (dk_at dkX12_goesOn_4 8 rfl) (by decide +kernel) ?_
        refine x_calli (As := [.int (iI 47)]) (rest := [.ref (q 0)]) ⟨hx, hb, hml, hown, hts⟩ (mb_X12_isSign l dC dI cB cI cJ cZ cQ q _ 47 hI ⟨by decide, by decide⟩) (cwV 1 hts (goodV wlq_0_37 wlq_0_38 wlq_0_39 wlq_0_8 wlq_0_34) rfl rfl rfl (by decide +kernel) ⟨Nat.le_of_ble_eq_true rfl, Nat.le_of_ble_eq_true rfl⟩) hK hDD hA0 hP hS 0 12 wm0 rfl rfl hl.1 (Nat.le_of_ble_eq_true rfl) (dk_at dkX12_goesOn_4 9 rfl) (fun z99 A100 H locs hw101 hP hS => ?_)
        obtain ⟨rfl, hw101⟩ := hw101
        have ghw101 : q_X12_isSign 47 A82 z99 := hw101
        have hw101 := hw101.2
        have rz99 : 0 ≤ z99 ∧ z99 ≤ 1 := hw101.1
        replace hw101 := Hd.mk hw101.2
        refine lv_if_eq (tgt := 159) hx hb (dk_at dkX12_goesOn_4 10 rfl) (by decide) (fun c102 => ?_) (fun c102 => ?_)
        · have c102 : z99 = 0 := (i_eq0 (rb rz99 (by decide) (by decide))).mp c102
          refine lv_bipush (v := iI 14) hx hb (dk_at dkX12_goesOn_4 13 rfl) (by decide +kernel) ?_
          refine x_callv (As := [.int (iI 14)]) (rest := []) ⟨hx, hb, hml, hown, hts⟩ (mb_X12_holdsBack l dC dI cB cI cJ cZ cQ q _ 14 hI ⟨by decide, by decide⟩ (by omega)) (cwV 1 hts (goodV wlq_2_2 wlq_2_3 wlq_2_4 wlq_0_8 wlq_1_44) rfl rfl rfl (by decide +kernel) ⟨Nat.le_of_ble_eq_true rfl, Nat.le_of_ble_eq_true rfl⟩) hK hDD hA0 hP hS 0 12 wm0 rfl rfl hl.1 (Nat.le_of_ble_eq_true rfl) (dk_at dkX12_goesOn_4 14 rfl) (fun A103 H locs hw104 hP hS => ?_)
          have ghw104 : q_X12_holdsBack 14 A82 A103 := hw104
          obtain ⟨_, hI, hf105, hw104⟩ := hw104
          have r_A103_0_56 : (0 : Int) ≤ (A103 0 56) ∧ (A103 0 56) ≤ 500 := hI 0 56
          refine lv_aload_n hx hb (dk_at dkX12_goesOn_4 15 rfl) rfl (lv_at hl 0 rfl) ?_
          have e_A103_4 : A103 0 4 = (A 0 4) := (hf105.2 4 rfl).trans e_A82_4
          have e_A103_5 : A103 0 5 = (A 0 5) := (hf105.2 5 rfl).trans e_A82_5
          have e_A103_8 : A103 0 8 = (A 0 8) := (hf105.2 8 rfl).trans e_A82_8
          refine x_callv (As := []) (rest := []) ⟨hx, hb, hml, hown, hts⟩ (mb_X12_ahead l dC dI cB cI cJ cZ cQ q _ hI) (cwV 0 hts (goodV wlq_0_40 wlq_0_41 wlq_0_42 wlq_0_8 wlq_0_20) rfl rfl rfl (by decide +kernel) ⟨Nat.le_of_ble_eq_true rfl, Nat.le_of_ble_eq_true rfl⟩) hK hDD hA0 hP hS 0 12 wm0 rfl rfl hl.1 (Nat.le_of_ble_eq_true rfl) (dk_at dkX12_goesOn_5 0 rfl) (fun A106 H locs hw107 hP hS => ?_)
          have ghw107 : q_X12_ahead A103 A106 := hw107
          obtain ⟨_, hI, hf108, hw107⟩ := hw107
          have r_A106_0_3 : (0 : Int) ≤ (A106 0 3) ∧ (A106 0 3) ≤ 3 := hI 0 3
          have r_A106_0_4 : (0 : Int) ≤ (A106 0 4) ∧ (A106 0 4) ≤ 1600 := hI 0 4
          have r_A106_0_5 : (0 : Int) ≤ (A106 0 5) ∧ (A106 0 5) ≤ 1600 := hI 0 5
          have r_A106_0_8 : (0 : Int) ≤ (A106 0 8) ∧ (A106 0 8) ≤ 5 := hI 0 8
          have hw107x := hw107.1
          have hw107y := hw107.2.1
          replace hw107 := Hd.mk hw107
          refine lv_aload_n hx hb (dk_at dkX12_goesOn_5 1 rfl) rfl (lv_at hl 0 rfl) ?_
          refine lv_iconst (v := iI 0) hx hb (dk_at dkX12_goesOn_5 2 rfl) (by decide +kernel) ?_
          refine x_put (D := (dC, dI)) (ci := 12) (v := .int (iI 0)) (ty := .boolean) (C := RX12) (T := TX12) (N := 85) hx hb hts hiX12 tyX12 tyX12_ok nmX12 hown hK hP hDD hS 0 wm0 rfl 57 (by decide) (hts _ (List.mem_cons_of_mem _ wlq_2_9)) (fun _ h9 => h9) rfl (by decide +kernel) (by decide +kernel) rfl (Nat.le_of_ble_eq_true rfl) (dk_at dkX12_goesOn_5 3 rfl) (wf57 (v := 0)) (fun H locs hP hS => ?_)
          have hI := hI.st (j := 0) (i := 57) (v := 0) (show (0 : Int) ≤ 0 ∧ 0 ≤ 1 from (by omega))
          refine lv_iconst (v := iI 1) hx hb (dk_at dkX12_goesOn_5 4 rfl) (by decide +kernel) ?_
          obtain ⟨A109, hA109⟩ : ∃ A109 : St, A109 = (stA A106 0 57 0) := ⟨_, rfl⟩
          rw [← hA109] at hP hI
          have e_A109_4 : A109 0 4 = (A106 0 4) := by rw [hA109]; exact rfl
          have e_A109_5 : A109 0 5 = (A106 0 5) := by rw [hA109]; exact rfl
          have e_A109_8 : A109 0 8 = (A106 0 8) := by rw [hA109]; exact rfl
          have e_A103_46 : A103 0 46 = (A82 0 46) := (hf105.2 46 rfl)
          have e_A106_46 : A106 0 46 = (A82 0 46) := (hf108.2 46 rfl).trans e_A103_46
          have e_A109_46 : A109 0 46 = (A82 0 46) := by rw [hA109]; exact e_A106_46
          have e_A103_47 : A103 0 47 = (A 0 47) := (hf105.2 47 rfl).trans e_A82_47
          have e_A106_47 : A106 0 47 = (A 0 47) := (hf108.2 47 rfl).trans e_A103_47
          have e_A109_47 : A109 0 47 = (A 0 47) := by rw [hA109]; exact e_A106_47
          have e_A109_57 : A109 0 57 = 0 := by rw [hA109]; rfl
          have ca110 : A82 35 = A 35 := (hf84.1 35 (by decide) rfl)
          have ca111 : A109 1 = A106 1 := by rw [hA109]; exact rfl
          have e_A109_3 : A109 0 3 = (A106 0 3) := by rw [hA109]; exact rfl
          have e_A109_7 : A109 0 7 = (A106 0 7) := by rw [hA109]; exact rfl
          have hlt := RI.lt hp0 (by omega)
          have ca112 : A106 40 = A103 40 := (hf108.1 40 (by decide) rfl)
          have ca113 : A109 40 = A103 40 := by rw [hA109]; exact ca112
          have e_A106_56 : A106 0 56 = (A103 0 56) := (hf108.2 56 rfl)
          have e_A109_56 : A109 0 56 = (A103 0 56) := by rw [hA109]; exact e_A106_56
          have ca114 : A103 29 = A82 29 := (hf105.1 29 (by decide) rfl)
          have ca115 : A106 29 = A82 29 := (hf108.1 29 (by decide) rfl).trans ca114
          have ca116 : A109 29 = A82 29 := by rw [hA109]; exact ca115
          have ca117 : A103 31 = A82 31 := (hf105.1 31 (by decide) rfl)
          have ca118 : A106 31 = A82 31 := (hf108.1 31 (by decide) rfl).trans ca117
          have ca119 : A109 31 = A82 31 := by rw [hA109]; exact ca118
          have ca120 : A103 33 = A82 33 := (hf105.1 33 (by decide) rfl)
          have ca121 : A106 33 = A82 33 := (hf108.1 33 (by decide) rfl).trans ca120
          have ca122 : A109 33 = A82 33 := by rw [hA109]; exact ca121
          have ca123 : A103 35 = A82 35 := (hf105.1 35 (by decide) rfl)
          have ca124 : A106 35 = A82 35 := (hf108.1 35 (by decide) rfl).trans ca123
          have ca125 : A109 35 = A82 35 := by rw [hA109]; exact ca124
          have ca126 : A103 37 = A82 37 := (hf105.1 37 (by decide) rfl)
          have ca127 : A106 37 = A82 37 := (hf108.1 37 (by decide) rfl).trans ca126
          have ca128 : A109 37 = A82 37 := by rw [hA109]; exact ca127
          have ca129 : A103 39 = A82 39 := (hf105.1 39 (by decide) rfl)
          have ca130 : A106 39 = A82 39 := (hf108.1 39 (by decide) rfl).trans ca129
          have ca131 : A109 39 = A82 39 := by rw [hA109]; exact ca130
          have e_A103_53 : A103 0 53 = (A 0 53) := (hf105.2 53 rfl).trans e_A82_53
          have e_A106_53 : A106 0 53 = (A 0 53) := (hf108.2 53 rfl).trans e_A103_53
          have e_A109_53 : A109 0 53 = (A 0 53) := by rw [hA109]; exact e_A106_53
          have e_A103_54 : A103 0 54 = (A 0 54) := (hf105.2 54 rfl).trans e_A82_54
          have e_A106_54 : A106 0 54 = (A 0 54) := (hf108.2 54 rfl).trans e_A103_54
          have e_A109_54 : A109 0 54 = (A 0 54) := by rw [hA109]; exact e_A106_54
          have ca132 : A103 36 = A82 36 := (hf105.1 36 (by decide) rfl)
          have ca133 : A106 36 = A82 36 := (hf108.1 36 (by decide) rfl).trans ca132
          have ca134 : A109 36 = A82 36 := by rw [hA109]; exact ca133
          have ca135 : A103 39 = A82 39 := (hf105.1 39 (by decide) rfl)
          have ca136 : A106 39 = A82 39 := (hf108.1 39 (by decide) rfl).trans ca135
          have ca137 : A109 39 = A82 39 := by rw [hA109]; exact ca136
          exact RET 1 _ _ _ _ _ ⟨hk1 _ _ (u_d_X12_goesOn_1 ⟨z30, ghw32, (Or.inr ⟨c33, ⟨z78, ghw80, (Or.inl ⟨c81, ⟨A82, ghw83, ⟨z87, ghw89, ⟨z91, ghw93, ⟨z95, ghw97, (Or.inl ⟨c98, ⟨z99, ghw101, (Or.inl ⟨c102, ⟨A103, ghw104, ⟨A106, ghw107, ⟨A109, hA109, ⟨rfl, rfl⟩⟩⟩⟩⟩)⟩⟩)⟩⟩⟩⟩⟩)⟩⟩)⟩), hI, fr_def hA109 (fr.sf (fr.trans (fr.trans (fr.trans (fr.rf) hf84 rfl rfl) hf105 rfl rfl) hf108 rfl rfl) rfl), (CI.fr (CI.fr (CI.fr hc85 hf105 rfl rfl) hf108 rfl rfl) (fr_def hA109 (fr.sf (fr.rf (M := []) (N := [57])) rfl)) rfl rfl), ⟨by decide, Hd.mk (fun h0 => ⟨fun _ => ⟨by rw [e_A109_57]; exact RI.op (x := 14) (r37 := A82 37) hj1 hIj (by rw [e_A82_3]; rw [hs3]; decide) (by decide) (hj2.out.imp id (fun t => by rw [show rk 14 = 6 by decide]; exact t)) (fun _ _ => rfl) (fun h => absurd h (by rw [RI.nn hj1 rfl]; decide)) ⟨ca116, ca119, ca122, ca125, ca128, ca131, (ca113.trans hw104.2), e_A109_46, (e_A109_47.trans e_A82_47.symm), (e_A109_53.trans e_A82_53.symm), (e_A109_54.trans e_A82_54.symm), (e_A109_56.trans hw104.1)⟩ (by rw [← (e_A103_5.trans e_A82_5.symm), e_A109_4]; exact hw107x) (by rw [e_A109_4, e_A109_5]; exact hw107y) (LX.of ca111 e_A109_3 e_A109_4 e_A109_5 e_A109_7 hw107.out.2.2.1), ⟨(PR.fr (PR.fr (PR.fr (PR.fr hp2 hf84 rfl rfl) hf105 rfl rfl) hf108 rfl rfl) (fr_def hA109 (fr.sf (fr.rf (M := []) (N := [57])) rfl)) rfl rfl), SP.push (x := 14) (ph := A82 36 (A82 0 53 - 1).toNat) (r36 := A82 36) hc86 hIj hj1.2.1 (RI.deep hj1 hIj).1 ca134 (fun _ _ => rfl) rfl ca137 (ca113.trans hw104.2) (e_A109_53.trans e_A82_53.symm) (e_A109_56.trans hw104.1) ((hj2.out.imp id (fun t => by rw [show rk 14 = 6 by decide]; exact t)).imp id Int.le_of_lt) (fun h => ⟨by decide, Or.inl h⟩)⟩, by omega⟩, fun h => absurd h (by decide)⟩)⟩⟩ hP hS (dk_at dkX12_goesOn_5 5 rfl)
        · have c102 : ¬ z99 = 0 := mt (i_eq0 (rb rz99 (by decide) (by decide))).mpr c102
          have hw101b := hw101.out.mp (by omega)
          refine lv_bipush (v := iI 13) hx hb (dk_at dkX12_goesOn_4 11 rfl) (by decide +kernel) ?_
          refine lv_goto (tgt := 161) hx hb (dk_at dkX12_goesOn_4 12 rfl) (by decide) ?_
          refine x_callv (As := [.int (iI 13)]) (rest := []) ⟨hx, hb, hml, hown, hts⟩ (mb_X12_holdsBack l dC dI cB cI cJ cZ cQ q _ 13 hI ⟨by decide, by decide⟩ (by omega)) (cwV 1 hts (goodV wlq_2_2 wlq_2_3 wlq_2_4 wlq_0_8 wlq_1_44) rfl rfl rfl (by decide +kernel) ⟨Nat.le_of_ble_eq_true rfl, Nat.le_of_ble_eq_true rfl⟩) hK hDD hA0 hP hS 0 12 wm0 rfl rfl hl.1 (Nat.le_of_ble_eq_true rfl) (dk_at dkX12_goesOn_4 14 rfl) (fun A138 H locs hw139 hP hS => ?_)
          have ghw139 : q_X12_holdsBack 13 A82 A138 := hw139
          obtain ⟨_, hI, hf140, hw139⟩ := hw139
          have r_A138_0_56 : (0 : Int) ≤ (A138 0 56) ∧ (A138 0 56) ≤ 500 := hI 0 56
          refine lv_aload_n hx hb (dk_at dkX12_goesOn_4 15 rfl) rfl (lv_at hl 0 rfl) ?_
          have e_A138_4 : A138 0 4 = (A 0 4) := (hf140.2 4 rfl).trans e_A82_4
          have e_A138_5 : A138 0 5 = (A 0 5) := (hf140.2 5 rfl).trans e_A82_5
          have e_A138_8 : A138 0 8 = (A 0 8) := (hf140.2 8 rfl).trans e_A82_8
          refine x_callv (As := []) (rest := []) ⟨hx, hb, hml, hown, hts⟩ (mb_X12_ahead l dC dI cB cI cJ cZ cQ q _ hI) (cwV 0 hts (goodV wlq_0_40 wlq_0_41 wlq_0_42 wlq_0_8 wlq_0_20) rfl rfl rfl (by decide +kernel) ⟨Nat.le_of_ble_eq_true rfl, Nat.le_of_ble_eq_true rfl⟩) hK hDD hA0 hP hS 0 12 wm0 rfl rfl hl.1 (Nat.le_of_ble_eq_true rfl) (dk_at dkX12_goesOn_5 0 rfl) (fun A141 H locs hw142 hP hS => ?_)
          have ghw142 : q_X12_ahead A138 A141 := hw142
          obtain ⟨_, hI, hf143, hw142⟩ := hw142
          have r_A141_0_3 : (0 : Int) ≤ (A141 0 3) ∧ (A141 0 3) ≤ 3 := hI 0 3
          have r_A141_0_4 : (0 : Int) ≤ (A141 0 4) ∧ (A141 0 4) ≤ 1600 := hI 0 4
          have r_A141_0_5 : (0 : Int) ≤ (A141 0 5) ∧ (A141 0 5) ≤ 1600 := hI 0 5
          have r_A141_0_8 : (0 : Int) ≤ (A141 0 8) ∧ (A141 0 8) ≤ 5 := hI 0 8
          have hw142x := hw142.1
          have hw142y := hw142.2.1
          replace hw142 := Hd.mk hw142
          refine lv_aload_n hx hb (dk_at dkX12_goesOn_5 1 rfl) rfl (lv_at hl 0 rfl) ?_
          refine lv_iconst (v := iI 0) hx hb (dk_at dkX12_goesOn_5 2 rfl) (by decide +kernel) ?_
          refine x_put (D := (dC, dI)) (ci := 12) (v := .int (iI 0)) (ty := .boolean) (C := RX12) (T := TX12) (N := 85) hx hb hts hiX12 tyX12 tyX12_ok nmX12 hown hK hP hDD hS 0 wm0 rfl 57 (by decide) (hts _ (List.mem_cons_of_mem _ wlq_2_9)) (fun _ h9 => h9) rfl (by decide +kernel) (by decide +kernel) rfl (Nat.le_of_ble_eq_true rfl) (dk_at dkX12_goesOn_5 3 rfl) (wf57 (v := 0)) (fun H locs hP hS => ?_)
          have hI := hI.st (j := 0) (i := 57) (v := 0) (show (0 : Int) ≤ 0 ∧ 0 ≤ 1 from (by omega))
          refine lv_iconst (v := iI 1) hx hb (dk_at dkX12_goesOn_5 4 rfl) (by decide +kernel) ?_
          obtain ⟨A144, hA144⟩ : ∃ A144 : St, A144 = (stA A141 0 57 0) := ⟨_, rfl⟩
          rw [← hA144] at hP hI
          have e_A144_4 : A144 0 4 = (A141 0 4) := by rw [hA144]; exact rfl
          have e_A144_5 : A144 0 5 = (A141 0 5) := by rw [hA144]; exact rfl
          have e_A144_8 : A144 0 8 = (A141 0 8) := by rw [hA144]; exact rfl
          have e_A138_46 : A138 0 46 = (A82 0 46) := (hf140.2 46 rfl)
          have e_A141_46 : A141 0 46 = (A82 0 46) := (hf143.2 46 rfl).trans e_A138_46
          have e_A144_46 : A144 0 46 = (A82 0 46) := by rw [hA144]; exact e_A141_46
          have e_A138_47 : A138 0 47 = (A 0 47) := (hf140.2 47 rfl).trans e_A82_47
          have e_A141_47 : A141 0 47 = (A 0 47) := (hf143.2 47 rfl).trans e_A138_47
          have e_A144_47 : A144 0 47 = (A 0 47) := by rw [hA144]; exact e_A141_47
          have e_A144_57 : A144 0 57 = 0 := by rw [hA144]; rfl
          have ca145 : A82 35 = A 35 := (hf84.1 35 (by decide) rfl)
          have ca146 : A144 1 = A141 1 := by rw [hA144]; exact rfl
          have e_A144_3 : A144 0 3 = (A141 0 3) := by rw [hA144]; exact rfl
          have e_A144_7 : A144 0 7 = (A141 0 7) := by rw [hA144]; exact rfl
          have hlt := RI.lt hp0 (by omega)
          have ca147 : A141 40 = A138 40 := (hf143.1 40 (by decide) rfl)
          have ca148 : A144 40 = A138 40 := by rw [hA144]; exact ca147
          have e_A141_56 : A141 0 56 = (A138 0 56) := (hf143.2 56 rfl)
          have e_A144_56 : A144 0 56 = (A138 0 56) := by rw [hA144]; exact e_A141_56
          have ca149 : A138 29 = A82 29 := (hf140.1 29 (by decide) rfl)
          have ca150 : A141 29 = A82 29 := (hf143.1 29 (by decide) rfl).trans ca149
          have ca151 : A144 29 = A82 29 := by rw [hA144]; exact ca150
          have ca152 : A138 31 = A82 31 := (hf140.1 31 (by decide) rfl)
          have ca153 : A141 31 = A82 31 := (hf143.1 31 (by decide) rfl).trans ca152
          have ca154 : A144 31 = A82 31 := by rw [hA144]; exact ca153
          have ca155 : A138 33 = A82 33 := (hf140.1 33 (by decide) rfl)
          have ca156 : A141 33 = A82 33 := (hf143.1 33 (by decide) rfl).trans ca155
          have ca157 : A144 33 = A82 33 := by rw [hA144]; exact ca156
          have ca158 : A138 35 = A82 35 := (hf140.1 35 (by decide) rfl)
          have ca159 : A141 35 = A82 35 := (hf143.1 35 (by decide) rfl).trans ca158
          have ca160 : A144 35 = A82 35 := by rw [hA144]; exact ca159
          have ca161 : A138 37 = A82 37 := (hf140.1 37 (by decide) rfl)
          have ca162 : A141 37 = A82 37 := (hf143.1 37 (by decide) rfl).trans ca161
          have ca163 : A144 37 = A82 37 := by rw [hA144]; exact ca162
          have ca164 : A138 39 = A82 39 := (hf140.1 39 (by decide) rfl)
          have ca165 : A141 39 = A82 39 := (hf143.1 39 (by decide) rfl).trans ca164
          have ca166 : A144 39 = A82 39 := by rw [hA144]; exact ca165
          have e_A138_53 : A138 0 53 = (A 0 53) := (hf140.2 53 rfl).trans e_A82_53
          have e_A141_53 : A141 0 53 = (A 0 53) := (hf143.2 53 rfl).trans e_A138_53
          have e_A144_53 : A144 0 53 = (A 0 53) := by rw [hA144]; exact e_A141_53
          have e_A138_54 : A138 0 54 = (A 0 54) := (hf140.2 54 rfl).trans e_A82_54
          have e_A141_54 : A141 0 54 = (A 0 54) := (hf143.2 54 rfl).trans e_A138_54
          have e_A144_54 : A144 0 54 = (A 0 54) := by rw [hA144]; exact e_A141_54
          have ca167 : A138 36 = A82 36 := (hf140.1 36 (by decide) rfl)
          have ca168 : A141 36 = A82 36 := (hf143.1 36 (by decide) rfl).trans ca167
          have ca169 : A144 36 = A82 36 := by rw [hA144]; exact ca168
          have ca170 : A138 39 = A82 39 := (hf140.1 39 (by decide) rfl)
          have ca171 : A141 39 = A82 39 := (hf143.1 39 (by decide) rfl).trans ca170
          have ca172 : A144 39 = A82 39 := by rw [hA144]; exact ca171
          exact RET 1 _ _ _ _ _ ⟨hk1 _ _ (u_d_X12_goesOn_1 ⟨z30, ghw32, (Or.inr ⟨c33, ⟨z78, ghw80, (Or.inl ⟨c81, ⟨A82, ghw83, ⟨z87, ghw89, ⟨z91, ghw93, ⟨z95, ghw97, (Or.inl ⟨c98, ⟨z99, ghw101, (Or.inr ⟨c102, ⟨A138, ghw139, ⟨A141, ghw142, ⟨A144, hA144, ⟨rfl, rfl⟩⟩⟩⟩⟩)⟩⟩)⟩⟩⟩⟩⟩)⟩⟩)⟩), hI, fr_def hA144 (fr.sf (fr.trans (fr.trans (fr.trans (fr.rf) hf84 rfl rfl) hf140 rfl rfl) hf143 rfl rfl) rfl), (CI.fr (CI.fr (CI.fr hc85 hf140 rfl rfl) hf143 rfl rfl) (fr_def hA144 (fr.sf (fr.rf (M := []) (N := [57])) rfl)) rfl rfl), ⟨by decide, Hd.mk (fun h0 => ⟨fun _ => ⟨by rw [e_A144_57]; exact RI.op (x := 13) (r37 := A82 37) hj1 hIj (by rw [e_A82_3]; rw [hs3]; decide) (by decide) (hj2.out.imp id (fun t => by rw [show rk 13 = 6 by decide]; exact t)) (fun _ _ => rfl) (fun h => absurd h (by rw [RI.nn hj1 rfl]; decide)) ⟨ca151, ca154, ca157, ca160, ca163, ca166, (ca148.trans hw139.2), e_A144_46, (e_A144_47.trans e_A82_47.symm), (e_A144_53.trans e_A82_53.symm), (e_A144_54.trans e_A82_54.symm), (e_A144_56.trans hw139.1)⟩ (by rw [← (e_A138_5.trans e_A82_5.symm), e_A144_4]; exact hw142x) (by rw [e_A144_4, e_A144_5]; exact hw142y) (LX.of ca146 e_A144_3 e_A144_4 e_A144_5 e_A144_7 hw142.out.2.2.1), ⟨(PR.fr (PR.fr (PR.fr (PR.fr hp2 hf84 rfl rfl) hf140 rfl rfl) hf143 rfl rfl) (fr_def hA144 (fr.sf (fr.rf (M := []) (N := [57])) rfl)) rfl rfl), SP.push (x := 13) (ph := A82 36 (A82 0 53 - 1).toNat) (r36 := A82 36) hc86 hIj hj1.2.1 (RI.deep hj1 hIj).1 ca169 (fun _ _ => rfl) rfl ca172 (ca148.trans hw139.2) (e_A144_53.trans e_A82_53.symm) (e_A144_56.trans hw139.1) ((hj2.out.imp id (fun t => by rw [show rk 13 = 6 by decide]; exact t)).imp id Int.le_of_lt) (fun h => ⟨by decide, Or.inl h⟩)⟩, by omega⟩, fun h => absurd h (by decide)⟩)⟩⟩ hP hS (dk_at dkX12_goesOn_5 5 rfl)
      · have c98 : ¬ z95 = 0 := mt (i_eq0 (rb rz95 (by decide) (by decide))).mpr c98
        have hw97b := hw97.out.mp (by omega)
        refine lv_bipush (v := iI 12) hx hb (dk_at dkX12_goesOn_4 5 rfl) (by decide +kernel) ?_
        refine lv_goto (tgt := 161) hx hb (dk_at dkX12_goesOn_4 6 rfl) (by decide) ?_
        refine x_callv (As := [.int (iI 12)]) (rest := []) ⟨hx, hb, hml, hown, hts⟩ (mb_X12_holdsBack l dC dI cB cI cJ cZ cQ q _ 12 hI ⟨by decide, by decide⟩ (by omega)) (cwV 1 hts (goodV wlq_2_2 wlq_2_3 wlq_2_4 wlq_0_8 wlq_1_44) rfl rfl rfl (by decide +kernel) ⟨Nat.le_of_ble_eq_true rfl, Nat.le_of_ble_eq_true rfl⟩) hK hDD hA0 hP hS 0 12 wm0 rfl rfl hl.1 (Nat.le_of_ble_eq_true rfl) (dk_at dkX12_goesOn_4 14 rfl) (fun A173 H locs hw174 hP hS => ?_)
        have ghw174 : q_X12_holdsBack 12 A82 A173 := hw174
        obtain ⟨_, hI, hf175, hw174⟩ := hw174
        have r_A173_0_56 : (0 : Int) ≤ (A173 0 56) ∧ (A173 0 56) ≤ 500 := hI 0 56
        refine lv_aload_n hx hb (dk_at dkX12_goesOn_4 15 rfl) rfl (lv_at hl 0 rfl) ?_
        have e_A173_4 : A173 0 4 = (A 0 4) := (hf175.2 4 rfl).trans e_A82_4
        have e_A173_5 : A173 0 5 = (A 0 5) := (hf175.2 5 rfl).trans e_A82_5
        have e_A173_8 : A173 0 8 = (A 0 8) := (hf175.2 8 rfl).trans e_A82_8
        refine x_callv (As := []) (rest := []) ⟨hx, hb, hml, hown, hts⟩ (mb_X12_ahead l dC dI cB cI cJ cZ cQ q _ hI) (cwV 0 hts (goodV wlq_0_40 wlq_0_41 wlq_0_42 wlq_0_8 wlq_0_20) rfl rfl rfl (by decide +kernel) ⟨Nat.le_of_ble_eq_true rfl, Nat.le_of_ble_eq_true rfl⟩) hK hDD hA0 hP hS 0 12 wm0 rfl rfl hl.1 (Nat.le_of_ble_eq_true rfl) (dk_at dkX12_goesOn_5 0 rfl) (fun A176 H locs hw177 hP hS => ?_)
        have ghw177 : q_X12_ahead A173 A176 := hw177
        obtain ⟨_, hI, hf178, hw177⟩ := hw177
        have r_A176_0_3 : (0 : Int) ≤ (A176 0 3) ∧ (A176 0 3) ≤ 3 := hI 0 3
        have r_A176_0_4 : (0 : Int) ≤ (A176 0 4) ∧ (A176 0 4) ≤ 1600 := hI 0 4
        have r_A176_0_5 : (0 : Int) ≤ (A176 0 5) ∧ (A176 0 5) ≤ 1600 := hI 0 5
        have r_A176_0_8 : (0 : Int) ≤ (A176 0 8) ∧ (A176 0 8) ≤ 5 := hI 0 8
        have hw177x := hw177.1
        have hw177y := hw177.2.1
        replace hw177 := Hd.mk hw177
        refine lv_aload_n hx hb (dk_at dkX12_goesOn_5 1 rfl) rfl (lv_at hl 0 rfl) ?_
        refine lv_iconst (v := iI 0) hx hb (dk_at dkX12_goesOn_5 2 rfl) (by decide +kernel) ?_
        refine x_put (D := (dC, dI)) (ci := 12) (v := .int (iI 0)) (ty := .boolean) (C := RX12) (T := TX12) (N := 85) hx hb hts hiX12 tyX12 tyX12_ok nmX12 hown hK hP hDD hS 0 wm0 rfl 57 (by decide) (hts _ (List.mem_cons_of_mem _ wlq_2_9)) (fun _ h9 => h9) rfl (by decide +kernel) (by decide +kernel) rfl (Nat.le_of_ble_eq_true rfl) (dk_at dkX12_goesOn_5 3 rfl) (wf57 (v := 0)) (fun H locs hP hS => ?_)
        have hI := hI.st (j := 0) (i := 57) (v := 0) (show (0 : Int) ≤ 0 ∧ 0 ≤ 1 from (by omega))
        refine lv_iconst (v := iI 1) hx hb (dk_at dkX12_goesOn_5 4 rfl) (by decide +kernel) ?_
        obtain ⟨A179, hA179⟩ : ∃ A179 : St, A179 = (stA A176 0 57 0) := ⟨_, rfl⟩
        rw [← hA179] at hP hI
        have e_A179_4 : A179 0 4 = (A176 0 4) := by rw [hA179]; exact rfl
        have e_A179_5 : A179 0 5 = (A176 0 5) := by rw [hA179]; exact rfl
        have e_A179_8 : A179 0 8 = (A176 0 8) := by rw [hA179]; exact rfl
        have e_A173_46 : A173 0 46 = (A82 0 46) := (hf175.2 46 rfl)
        have e_A176_46 : A176 0 46 = (A82 0 46) := (hf178.2 46 rfl).trans e_A173_46
        have e_A179_46 : A179 0 46 = (A82 0 46) := by rw [hA179]; exact e_A176_46
        have e_A173_47 : A173 0 47 = (A 0 47) := (hf175.2 47 rfl).trans e_A82_47
        have e_A176_47 : A176 0 47 = (A 0 47) := (hf178.2 47 rfl).trans e_A173_47
        have e_A179_47 : A179 0 47 = (A 0 47) := by rw [hA179]; exact e_A176_47
        have e_A179_57 : A179 0 57 = 0 := by rw [hA179]; rfl
        have ca180 : A82 35 = A 35 := (hf84.1 35 (by decide) rfl)
        have ca181 : A179 1 = A176 1 := by rw [hA179]; exact rfl
        have e_A179_3 : A179 0 3 = (A176 0 3) := by rw [hA179]; exact rfl
        have e_A179_7 : A179 0 7 = (A176 0 7) := by rw [hA179]; exact rfl
        have hlt := RI.lt hp0 (by omega)
        have ca182 : A176 40 = A173 40 := (hf178.1 40 (by decide) rfl)
        have ca183 : A179 40 = A173 40 := by rw [hA179]; exact ca182
        have e_A176_56 : A176 0 56 = (A173 0 56) := (hf178.2 56 rfl)
        have e_A179_56 : A179 0 56 = (A173 0 56) := by rw [hA179]; exact e_A176_56
        have ca184 : A173 29 = A82 29 := (hf175.1 29 (by decide) rfl)
        have ca185 : A176 29 = A82 29 := (hf178.1 29 (by decide) rfl).trans ca184
        have ca186 : A179 29 = A82 29 := by rw [hA179]; exact ca185
        have ca187 : A173 31 = A82 31 := (hf175.1 31 (by decide) rfl)
        have ca188 : A176 31 = A82 31 := (hf178.1 31 (by decide) rfl).trans ca187
        have ca189 : A179 31 = A82 31 := by rw [hA179]; exact ca188
        have ca190 : A173 33 = A82 33 := (hf175.1 33 (by decide) rfl)
        have ca191 : A176 33 = A82 33 := (hf178.1 33 (by decide) rfl).trans ca190
        have ca192 : A179 33 = A82 33 := by rw [hA179]; exact ca191
        have ca193 : A173 35 = A82 35 := (hf175.1 35 (by decide) rfl)
        have ca194 : A176 35 = A82 35 := (hf178.1 35 (by decide) rfl).trans ca193
        have ca195 : A179 35 = A82 35 := by rw [hA179]; exact ca194
        have ca196 : A173 37 = A82 37 := (hf175.1 37 (by decide) rfl)
        have ca197 : A176 37 = A82 37 := (hf178.1 37 (by decide) rfl).trans ca196
        have ca198 : A179 37 = A82 37 := by rw [hA179]; exact ca197
        have ca199 : A173 39 = A82 39 := (hf175.1 39 (by decide) rfl)
        have ca200 : A176 39 = A82 39 := (hf178.1 39 (by decide) rfl).trans ca199
        have ca201 : A179 39 = A82 39 := by rw [hA179]; exact ca200
        have e_A173_53 : A173 0 53 = (A 0 53) := (hf175.2 53 rfl).trans e_A82_53
        have e_A176_53 : A176 0 53 = (A 0 53) := (hf178.2 53 rfl).trans e_A173_53
        have e_A179_53 : A179 0 53 = (A 0 53) := by rw [hA179]; exact e_A176_53
        have e_A173_54 : A173 0 54 = (A 0 54) := (hf175.2 54 rfl).trans e_A82_54
        have e_A176_54 : A176 0 54 = (A 0 54) := (hf178.2 54 rfl).trans e_A173_54
        have e_A179_54 : A179 0 54 = (A 0 54) := by rw [hA179]; exact e_A176_54
        have ca202 : A173 36 = A82 36 := (hf175.1 36 (by decide) rfl)
        have ca203 : A176 36 = A82 36 := (hf178.1 36 (by decide) rfl).trans ca202
        have ca204 : A179 36 = A82 36 := by rw [hA179]; exact ca203
        have ca205 : A173 39 = A82 39 := (hf175.1 39 (by decide) rfl)
        have ca206 : A176 39 = A82 39 := (hf178.1 39 (by decide) rfl).trans ca205
        have ca207 : A179 39 = A82 39 := by rw [hA179]; exact ca206
        exact RET 1 _ _ _ _ _ ⟨hk1 _ _ (u_d_X12_goesOn_1 ⟨z30, ghw32, (Or.inr ⟨c33, ⟨z78, ghw80, (Or.inl ⟨c81, ⟨A82, ghw83, ⟨z87, ghw89, ⟨z91, ghw93, ⟨z95, ghw97, (Or.inr ⟨c98, ⟨A173, ghw174, ⟨A176, ghw177, ⟨A179, hA179, ⟨rfl, rfl⟩⟩⟩⟩⟩)⟩⟩⟩⟩⟩)⟩⟩)⟩), hI, fr_def hA179 (fr.sf (fr.trans (fr.trans (fr.trans (fr.rf) hf84 rfl rfl) hf175 rfl rfl) hf178 rfl rfl) rfl), (CI.fr (CI.fr (CI.fr hc85 hf175 rfl rfl) hf178 rfl rfl) (fr_def hA179 (fr.sf (fr.rf (M := []) (N := [57])) rfl)) rfl rfl), ⟨by decide, Hd.mk (fun h0 => ⟨fun _ => ⟨by rw [e_A179_57]; exact RI.op (x := 12) (r37 := A82 37) hj1 hIj (by rw [e_A82_3]; rw [hs3]; decide) (by decide) (hj2.out.imp id (fun t => by rw [show rk 12 = 6 by decide]; exact t)) (fun _ _ => rfl) (fun h => absurd h (by rw [RI.nn hj1 rfl]; decide)) ⟨ca186, ca189, ca192, ca195, ca198, ca201, (ca183.trans hw174.2), e_A179_46, (e_A179_47.trans e_A82_47.symm), (e_A179_53.trans e_A82_53.symm), (e_A179_54.trans e_A82_54.symm), (e_A179_56.trans hw174.1)⟩ (by rw [← (e_A173_5.trans e_A82_5.symm), e_A179_4]; exact hw177x) (by rw [e_A179_4, e_A179_5]; exact hw177y) (LX.of ca181 e_A179_3 e_A179_4 e_A179_5 e_A179_7 hw177.out.2.2.1), ⟨(PR.fr (PR.fr (PR.fr (PR.fr hp2 hf84 rfl rfl) hf175 rfl rfl) hf178 rfl rfl) (fr_def hA179 (fr.sf (fr.rf (M := []) (N := [57])) rfl)) rfl rfl), SP.push (x := 12) (ph := A82 36 (A82 0 53 - 1).toNat) (r36 := A82 36) hc86 hIj hj1.2.1 (RI.deep hj1 hIj).1 ca204 (fun _ _ => rfl) rfl ca207 (ca183.trans hw174.2) (e_A179_53.trans e_A82_53.symm) (e_A179_56.trans hw174.1) ((hj2.out.imp id (fun t => by rw [show rk 12 = 6 by decide]; exact t)).imp id Int.le_of_lt) (fun h => ⟨by decide, Or.inl h⟩)⟩, by omega⟩, fun h => absurd h (by decide)⟩)⟩⟩ hP hS (dk_at dkX12_goesOn_5 5 rfl)
    · have c81 : ¬ z78 = 0 := mt (i_eq0 (rb rz78 (by decide) (by decide))).mpr c81
      have hw80b := hw80.out.mp (by omega)
      refine lv_iconst (v := iI 5) hx hb (dk_at dkX12_goesOn_3 0 rfl) (by decide +kernel) ?_
      refine lv_goto (tgt := 99) hx hb (dk_at dkX12_goesOn_3 1 rfl) (by decide) ?_
      refine x_callv (As := [.int (iI 5)]) (rest := []) ⟨hx, hb, hml, hown, hts⟩ (mb_X12_joins l dC dI cB cI cJ cZ cQ q _ 5 hI ⟨by decide, by decide⟩ (by exact hp0) hcCI hp4) (cwV 1 hts (goodV wlq_2_10 wlq_2_11 wlq_2_12 wlq_0_8 wlq_1_34) rfl rfl rfl (by decide +kernel) ⟨Nat.le_of_ble_eq_true rfl, Nat.le_of_ble_eq_true rfl⟩) hK hDD hA0 hP hS 0 12 wm0 rfl rfl hl.1 (Nat.le_of_ble_eq_true rfl) (dk_at dkX12_goesOn_3 3 rfl) (fun A208 H locs hw209 hP hS => ?_)
      have ghw209 : q_X12_joins 5 A A208 := hw209
      obtain ⟨_, hI, hf210, hw209⟩ := hw209
      obtain ⟨hc211, hw209⟩ := hw209
      obtain ⟨hc212, hw209⟩ := hw209
      have e_A208_53 : A208 0 53 = (A 0 53) := (hf210.2 53 rfl)
      have r_A208_0_56 : (0 : Int) ≤ (A208 0 56) ∧ (A208 0 56) ≤ 500 := hI 0 56
      have hj1 := hw209.1
      have hj2 := Hd.mk hw209.2
      clear hw209
      have hIj := hI
      have hrj := RI.room hj1 hIj
      have e_A208_3 : A208 0 3 = (A 0 3) := (hf210.2 3 rfl)
      have e_A208_4 : A208 0 4 = (A 0 4) := (hf210.2 4 rfl)
      have e_A208_5 : A208 0 5 = (A 0 5) := (hf210.2 5 rfl)
      have e_A208_7 : A208 0 7 = (A 0 7) := (hf210.2 7 rfl)
      have e_A208_8 : A208 0 8 = (A 0 8) := (hf210.2 8 rfl)
      have e_A208_47 : A208 0 47 = (A 0 47) := (hf210.2 47 rfl)
      have e_A208_54 : A208 0 54 = (A 0 54) := (hf210.2 54 rfl)
      have r_A208_0_46 : (0 : Int) ≤ (A208 0 46) ∧ (A208 0 46) ≤ 1600 := hI 0 46
      refine lv_aload_n hx hb (dk_at dkX12_goesOn_3 4 rfl) rfl (lv_at hl 0 rfl) ?_
      refine lv_aload_n hx hb (dk_at dkX12_goesOn_3 5 rfl) rfl (lv_at hl 0 rfl) ?_
      refine lv_bipush (v := iI 43) hx hb (dk_at dkX12_goesOn_3 6 rfl) (by decide +kernel) ?_
      have e_A208_6 : A208 0 6 = (A 0 6) := (hf210.2 6 rfl)
      refine x_calli (As := [.int (iI 43)]) (rest := [.ref (q 0)]) ⟨hx, hb, hml, hown, hts⟩ (mb_X12_isSign l dC dI cB cI cJ cZ cQ q _ 43 hI ⟨by decide, by decide⟩) (cwV 1 hts (goodV wlq_0_37 wlq_0_38 wlq_0_39 wlq_0_8 wlq_0_34) rfl rfl rfl (by decide +kernel) ⟨Nat.le_of_ble_eq_true rfl, Nat.le_of_ble_eq_true rfl⟩) hK hDD hA0 hP hS 0 12 wm0 rfl rfl hl.1 (Nat.le_of_ble_eq_true rfl) (dk_at dkX12_goesOn_3 7 rfl) (fun z213 A214 H locs hw215 hP hS => ?_)
      obtain ⟨rfl, hw215⟩ := hw215
      have ghw215 : q_X12_isSign 43 A208 z213 := hw215
      have hw215 := hw215.2
      have rz213 : 0 ≤ z213 ∧ z213 ≤ 1 := hw215.1
      replace hw215 := Hd.mk hw215.2
      have ez213 : z213 = z30 := by have a := hw32.out; have b := hw215.out; omega
      refine lv_if_eq (tgt := 117) hx hb (dk_at dkX12_goesOn_3 8 rfl) (by decide) (fun _ => ?_) (fun c216 => False.elim (by have c216 : ¬ z213 = 0 := mt (i_eq0 (rb rz213 (by decide) (by decide))).mpr c216; omega))
      refine lv_aload_n hx hb (dk_at dkX12_goesOn_3 11 rfl) rfl (lv_at hl 0 rfl) ?_
      refine lv_bipush (v := iI 45) hx hb (dk_at dkX12_goesOn_3 12 rfl) (by decide +kernel) ?_
      refine x_calli (As := [.int (iI 45)]) (rest := [.ref (q 0)]) ⟨hx, hb, hml, hown, hts⟩ (mb_X12_isSign l dC dI cB cI cJ cZ cQ q _ 45 hI ⟨by decide, by decide⟩) (cwV 1 hts (goodV wlq_0_37 wlq_0_38 wlq_0_39 wlq_0_8 wlq_0_34) rfl rfl rfl (by decide +kernel) ⟨Nat.le_of_ble_eq_true rfl, Nat.le_of_ble_eq_true rfl⟩) hK hDD hA0 hP hS 0 12 wm0 rfl rfl hl.1 (Nat.le_of_ble_eq_true rfl) (dk_at dkX12_goesOn_3 13 rfl) (fun z217 A218 H locs hw219 hP hS => ?_)
      obtain ⟨rfl, hw219⟩ := hw219
      have ghw219 : q_X12_isSign 45 A208 z217 := hw219
      have hw219 := hw219.2
      have rz217 : 0 ≤ z217 ∧ z217 ≤ 1 := hw219.1
      replace hw219 := Hd.mk hw219.2
      have ez217 : z217 = z78 := by have a := hw80.out; have b := hw219.out; omega
      refine lv_if_eq (tgt := 131) hx hb (dk_at dkX12_goesOn_3 14 rfl) (by decide) (fun c220 => False.elim (by have c220 : z217 = 0 := (i_eq0 (rb rz217 (by decide) (by decide))).mp c220; omega)) (fun _ => ?_)
      refine lv_bipush (v := iI 11) hx hb (dk_at dkX12_goesOn_3 15 rfl) (by decide +kernel) ?_
      refine lv_goto (tgt := 161) hx hb (dk_at dkX12_goesOn_4 0 rfl) (by decide) ?_
      refine x_callv (As := [.int (iI 11)]) (rest := []) ⟨hx, hb, hml, hown, hts⟩ (mb_X12_holdsBack l dC dI cB cI cJ cZ cQ q _ 11 hI ⟨by decide, by decide⟩ (by omega)) (cwV 1 hts (goodV wlq_2_2 wlq_2_3 wlq_2_4 wlq_0_8 wlq_1_44) rfl rfl rfl (by decide +kernel) ⟨Nat.le_of_ble_eq_true rfl, Nat.le_of_ble_eq_true rfl⟩) hK hDD hA0 hP hS 0 12 wm0 rfl rfl hl.1 (Nat.le_of_ble_eq_true rfl) (dk_at dkX12_goesOn_4 14 rfl) (fun A221 H locs hw222 hP hS => ?_)
      have ghw222 : q_X12_holdsBack 11 A208 A221 := hw222
      obtain ⟨_, hI, hf223, hw222⟩ := hw222
      have r_A221_0_56 : (0 : Int) ≤ (A221 0 56) ∧ (A221 0 56) ≤ 500 := hI 0 56
      refine lv_aload_n hx hb (dk_at dkX12_goesOn_4 15 rfl) rfl (lv_at hl 0 rfl) ?_
      have e_A221_4 : A221 0 4 = (A 0 4) := (hf223.2 4 rfl).trans e_A208_4
      have e_A221_5 : A221 0 5 = (A 0 5) := (hf223.2 5 rfl).trans e_A208_5
      have e_A221_8 : A221 0 8 = (A 0 8) := (hf223.2 8 rfl).trans e_A208_8
      refine x_callv (As := []) (rest := []) ⟨hx, hb, hml, hown, hts⟩ (mb_X12_ahead l dC dI cB cI cJ cZ cQ q _ hI) (cwV 0 hts (goodV wlq_0_40 wlq_0_41 wlq_0_42 wlq_0_8 wlq_0_20) rfl rfl rfl (by decide +kernel) ⟨Nat.le_of_ble_eq_true rfl, Nat.le_of_ble_eq_true rfl⟩) hK hDD hA0 hP hS 0 12 wm0 rfl rfl hl.1 (Nat.le_of_ble_eq_true rfl) (dk_at dkX12_goesOn_5 0 rfl) (fun A224 H locs hw225 hP hS => ?_)
      have ghw225 : q_X12_ahead A221 A224 := hw225
      obtain ⟨_, hI, hf226, hw225⟩ := hw225
      have r_A224_0_3 : (0 : Int) ≤ (A224 0 3) ∧ (A224 0 3) ≤ 3 := hI 0 3
      have r_A224_0_4 : (0 : Int) ≤ (A224 0 4) ∧ (A224 0 4) ≤ 1600 := hI 0 4
      have r_A224_0_5 : (0 : Int) ≤ (A224 0 5) ∧ (A224 0 5) ≤ 1600 := hI 0 5
      have r_A224_0_8 : (0 : Int) ≤ (A224 0 8) ∧ (A224 0 8) ≤ 5 := hI 0 8
      have hw225x := hw225.1
      have hw225y := hw225.2.1
      replace hw225 := Hd.mk hw225
      refine lv_aload_n hx hb (dk_at dkX12_goesOn_5 1 rfl) rfl (lv_at hl 0 rfl) ?_
      refine lv_iconst (v := iI 0) hx hb (dk_at dkX12_goesOn_5 2 rfl) (by decide +kernel) ?_
      refine x_put (D := (dC, dI)) (ci := 12) (v := .int (iI 0)) (ty := .boolean) (C := RX12) (T := TX12) (N := 85) hx hb hts hiX12 tyX12 tyX12_ok nmX12 hown hK hP hDD hS 0 wm0 rfl 57 (by decide) (hts _ (List.mem_cons_of_mem _ wlq_2_9)) (fun _ h9 => h9) rfl (by decide +kernel) (by decide +kernel) rfl (Nat.le_of_ble_eq_true rfl) (dk_at dkX12_goesOn_5 3 rfl) (wf57 (v := 0)) (fun H locs hP hS => ?_)
      have hI := hI.st (j := 0) (i := 57) (v := 0) (show (0 : Int) ≤ 0 ∧ 0 ≤ 1 from (by omega))
      refine lv_iconst (v := iI 1) hx hb (dk_at dkX12_goesOn_5 4 rfl) (by decide +kernel) ?_
      obtain ⟨A227, hA227⟩ : ∃ A227 : St, A227 = (stA A224 0 57 0) := ⟨_, rfl⟩
      rw [← hA227] at hP hI
      have e_A227_4 : A227 0 4 = (A224 0 4) := by rw [hA227]; exact rfl
      have e_A227_5 : A227 0 5 = (A224 0 5) := by rw [hA227]; exact rfl
      have e_A227_8 : A227 0 8 = (A224 0 8) := by rw [hA227]; exact rfl
      have e_A221_46 : A221 0 46 = (A208 0 46) := (hf223.2 46 rfl)
      have e_A224_46 : A224 0 46 = (A208 0 46) := (hf226.2 46 rfl).trans e_A221_46
      have e_A227_46 : A227 0 46 = (A208 0 46) := by rw [hA227]; exact e_A224_46
      have e_A221_47 : A221 0 47 = (A 0 47) := (hf223.2 47 rfl).trans e_A208_47
      have e_A224_47 : A224 0 47 = (A 0 47) := (hf226.2 47 rfl).trans e_A221_47
      have e_A227_47 : A227 0 47 = (A 0 47) := by rw [hA227]; exact e_A224_47
      have e_A227_57 : A227 0 57 = 0 := by rw [hA227]; rfl
      have ca228 : A208 35 = A 35 := (hf210.1 35 (by decide) rfl)
      have ca229 : A227 1 = A224 1 := by rw [hA227]; exact rfl
      have e_A227_3 : A227 0 3 = (A224 0 3) := by rw [hA227]; exact rfl
      have e_A227_7 : A227 0 7 = (A224 0 7) := by rw [hA227]; exact rfl
      have hlt := RI.lt hp0 (by omega)
      have ca230 : A224 40 = A221 40 := (hf226.1 40 (by decide) rfl)
      have ca231 : A227 40 = A221 40 := by rw [hA227]; exact ca230
      have e_A224_56 : A224 0 56 = (A221 0 56) := (hf226.2 56 rfl)
      have e_A227_56 : A227 0 56 = (A221 0 56) := by rw [hA227]; exact e_A224_56
      have ca232 : A221 29 = A208 29 := (hf223.1 29 (by decide) rfl)
      have ca233 : A224 29 = A208 29 := (hf226.1 29 (by decide) rfl).trans ca232
      have ca234 : A227 29 = A208 29 := by rw [hA227]; exact ca233
      have ca235 : A221 31 = A208 31 := (hf223.1 31 (by decide) rfl)
      have ca236 : A224 31 = A208 31 := (hf226.1 31 (by decide) rfl).trans ca235
      have ca237 : A227 31 = A208 31 := by rw [hA227]; exact ca236
      have ca238 : A221 33 = A208 33 := (hf223.1 33 (by decide) rfl)
      have ca239 : A224 33 = A208 33 := (hf226.1 33 (by decide) rfl).trans ca238
      have ca240 : A227 33 = A208 33 := by rw [hA227]; exact ca239
      have ca241 : A221 35 = A208 35 := (hf223.1 35 (by decide) rfl)
      have ca242 : A224 35 = A208 35 := (hf226.1 35 (by decide) rfl).trans ca241
      have ca243 : A227 35 = A208 35 := by rw [hA227]; exact ca242
      have ca244 : A221 37 = A208 37 := (hf223.1 37 (by decide) rfl)
      have ca245 : A224 37 = A208 37 := (hf226.1 37 (by decide) rfl).trans ca244
      have ca246 : A227 37 = A208 37 := by rw [hA227]; exact ca245
      have ca247 : A221 39 = A208 39 := (hf223.1 39 (by decide) rfl)
      have ca248 : A224 39 = A208 39 := (hf226.1 39 (by decide) rfl).trans ca247
      have ca249 : A227 39 = A208 39 := by rw [hA227]; exact ca248
      have e_A221_53 : A221 0 53 = (A 0 53) := (hf223.2 53 rfl).trans e_A208_53
      have e_A224_53 : A224 0 53 = (A 0 53) := (hf226.2 53 rfl).trans e_A221_53
      have e_A227_53 : A227 0 53 = (A 0 53) := by rw [hA227]; exact e_A224_53
      have e_A221_54 : A221 0 54 = (A 0 54) := (hf223.2 54 rfl).trans e_A208_54
      have e_A224_54 : A224 0 54 = (A 0 54) := (hf226.2 54 rfl).trans e_A221_54
      have e_A227_54 : A227 0 54 = (A 0 54) := by rw [hA227]; exact e_A224_54
      have ca250 : A221 36 = A208 36 := (hf223.1 36 (by decide) rfl)
      have ca251 : A224 36 = A208 36 := (hf226.1 36 (by decide) rfl).trans ca250
      have ca252 : A227 36 = A208 36 := by rw [hA227]; exact ca251
      have ca253 : A221 39 = A208 39 := (hf223.1 39 (by decide) rfl)
      have ca254 : A224 39 = A208 39 := (hf226.1 39 (by decide) rfl).trans ca253
      have ca255 : A227 39 = A208 39 := by rw [hA227]; exact ca254
      exact RET 1 _ _ _ _ _ ⟨hk1 _ _ (u_d_X12_goesOn_1 ⟨z30, ghw32, (Or.inr ⟨c33, ⟨z78, ghw80, (Or.inr ⟨c81, ⟨A208, ghw209, ⟨z213, ghw215, ⟨z217, ghw219, ⟨A221, ghw222, ⟨A224, ghw225, ⟨A227, hA227, ⟨rfl, rfl⟩⟩⟩⟩⟩⟩⟩⟩)⟩⟩)⟩), hI, fr_def hA227 (fr.sf (fr.trans (fr.trans (fr.trans (fr.rf) hf210 rfl rfl) hf223 rfl rfl) hf226 rfl rfl) rfl), (CI.fr (CI.fr (CI.fr hc211 hf223 rfl rfl) hf226 rfl rfl) (fr_def hA227 (fr.sf (fr.rf (M := []) (N := [57])) rfl)) rfl rfl), ⟨by decide, Hd.mk (fun h0 => ⟨fun _ => ⟨by rw [e_A227_57]; exact RI.op (x := 11) (r37 := A208 37) hj1 hIj (by rw [e_A208_3]; rw [hs3]; decide) (by decide) (hj2.out.imp id (fun t => by rw [show rk 11 = 5 by decide]; exact t)) (fun _ _ => rfl) (fun h => absurd h (by rw [RI.nn hj1 rfl]; decide)) ⟨ca234, ca237, ca240, ca243, ca246, ca249, (ca231.trans hw222.2), e_A227_46, (e_A227_47.trans e_A208_47.symm), (e_A227_53.trans e_A208_53.symm), (e_A227_54.trans e_A208_54.symm), (e_A227_56.trans hw222.1)⟩ (by rw [← (e_A221_5.trans e_A208_5.symm), e_A227_4]; exact hw225x) (by rw [e_A227_4, e_A227_5]; exact hw225y) (LX.of ca229 e_A227_3 e_A227_4 e_A227_5 e_A227_7 hw225.out.2.2.1), ⟨(PR.fr (PR.fr (PR.fr (PR.fr hp2 hf210 rfl rfl) hf223 rfl rfl) hf226 rfl rfl) (fr_def hA227 (fr.sf (fr.rf (M := []) (N := [57])) rfl)) rfl rfl), SP.push (x := 11) (ph := A208 36 (A208 0 53 - 1).toNat) (r36 := A208 36) hc212 hIj hj1.2.1 (RI.deep hj1 hIj).1 ca252 (fun _ _ => rfl) rfl ca255 (ca231.trans hw222.2) (e_A227_53.trans e_A208_53.symm) (e_A227_56.trans hw222.1) ((hj2.out.imp id (fun t => by rw [show rk 11 = 5 by decide]; exact t)).imp id Int.le_of_lt) (fun h => ⟨by decide, Or.inl h⟩)⟩, by omega⟩, fun h => absurd h (by decide)⟩)⟩⟩ hP hS (dk_at dkX12_goesOn_5 5 rfl)
set_option maxHeartbeats 4000000 in
set_option maxRecDepth 100000 in
theorem mb_X12_goesOn_c215 (l : Launch) (dC : Nat → ClassId) (dI : Nat → Nat → Nat) (cB cI cJ cZ cQ : ClassId) (q : Nat → Nat) (A : St) (hI : IM A) (hp0 : RI 1 A) (hp1 : A 0 8 = 0) (hp2 : PR A) (hp3 : A 0 57 = 1) (hp4 : SP A) (hcCI : CI A) (p : Program) (e : Env) (s : State) (m : MethodId) (below : List Frame) (meth : Method) (c : Code) (Q : State → Prop) (AS : Nat → Prop) (hx : p.tables.exec = Jvm.exec) (hb : c.code = cX12_goesOn) (hml : c.maxLocals = 5) (hown : s.vm.findClass RX12 = some m.cls) (hts : ∀ w ∈ ws_mb_X12_goesOn, w.before [.ref (q 0)].toArray s = true) (hK : va_K (dC, dI) vwCl (tyA cB cI cJ cZ cQ) s) (hDD : ∀ A', va_D AS (WM cI cJ cZ q A')) (hA0 : ∀ b : Nat, s.heap.size ≤ b → AS b) (RET : ∀ (z : Int) (u : St) (H : Heap) (locs : List Loc) (pc : Nat) (ls : Array Slot), ((fun z u => r_X12_goesOn A z u ∧ IM u ∧ fr [33, 34, 35, 36, 37, 40] [3, 4, 5, 6, 7, 8, 9, 46, 53, 54, 56, 57] A u ∧ CI u ∧ ((0 ≤ z ∧ z ≤ 1) ∧ (Hd (u 0 8 = 0 → (z = 1 → RI (u 0 57) u ∧ (PR u ∧ SP u) ∧ A 0 4 + 1 ≤ u 0 4) ∧ (z = 0 → DP (u 33) (sA u) (1600 * u 0 47 + u 0 46) 1 ∧ CB u ∧ A 0 4 ≤ u 0 4))))) z u) → va_P (dC, dI) vwCl (WM cI cJ cZ q u) H → va_S AS s.heap H locs → decode cX12_goesOn pc = .ok (.ireturn, 1) → W p l e (headSpec ws_mb_X12_goesOn ({ frames := 2, cells := 0, slots := 0, locals := 47 } : Room)).room s m [.ref (q 0)].toArray below meth c H locs 0 0 Q (F0 m pc ls [.int (iI z)])) (H : Heap) (locs : List Loc) (ls : Array Slot) (z1 z2 : Int) (rz1 : (0 : Int) ≤ z1 ∧ z1 ≤ 5) (rz2 : (0 : Int) ≤ z2 ∧ z2 ≤ 1) (hz1 : z1 = A 35 ((A 0 53) - 1).toNat) (hs3 : A 0 3 = 3) (hph0 : A 36 ((A 0 53) - 1).toNat = 0) (hk3 : ∀ (z : Int) (u : St), (d_X12_goesOn_3 A z u z1 z2) → r_X12_goesOn A z u) (hP : va_P (dC, dI) vwCl (WM cI cJ cZ q A) H) (hS : va_S AS s.heap H locs) (hl : lv_has ls 5 [(0, .ref (q 0)), (1, .int (iI ((A 0 53) - 1))), (2, .int (iI z1)), (3, .int (iI z2))]) : W p l e (headSpec ws_mb_X12_goesOn ({ frames := 2, cells := 0, slots := 0, locals := 47 } : Room)).room s m [.ref (q 0)].toArray below meth c H locs 0 0 Q (F0 m 215 ls []) := by
  have hiX12 : ∀ w ∈ u_ws RX12 TX12 85, w ∈ ws_mb_X12_goesOn := fun w h => List.mem_cons_of_mem _ (wx_lay w h)
  have hI0 := hI
  have hdp := RI.deep hp0 hI0
  have hrm := RI.room hp0 hI0
  have r_A_0_3 : (0 : Int) ≤ (A 0 3) ∧ (A 0 3) ≤ 3 := hI 0 3
  have r_A_0_4 : (0 : Int) ≤ (A 0 4) ∧ (A 0 4) ≤ 1600 := hI 0 4
  have r_A_0_5 : (0 : Int) ≤ (A 0 5) ∧ (A 0 5) ≤ 1600 := hI 0 5
  have r_A_0_7 : (-9223372036854775808 : Int) ≤ (A 0 7) ∧ (A 0 7) ≤ 9223372036854775807 := hI 0 7
  have r_A_0_8 : (0 : Int) ≤ (A 0 8) ∧ (A 0 8) ≤ 5 := hI 0 8
  have r_A_0_46 : (0 : Int) ≤ (A 0 46) ∧ (A 0 46) ≤ 1600 := hI 0 46
  have r_A_0_47 : (0 : Int) ≤ (A 0 47) ∧ (A 0 47) ≤ 1 := hI 0 47
  have r_A_0_53 : (0 : Int) ≤ (A 0 53) ∧ (A 0 53) ≤ 20 := hI 0 53
  have r_A_0_54 : (0 : Int) ≤ (A 0 54) ∧ (A 0 54) ≤ 8 := hI 0 54
  have r_A_0_56 : (0 : Int) ≤ (A 0 56) ∧ (A 0 56) ≤ 500 := hI 0 56
  have hop := hp0.1
  refine lv_aload_n hx hb (dk_at dkX12_goesOn_6 9 rfl) rfl (lv_at hl 0 rfl) ?_
  refine lv_iconst (v := iI 5) hx hb (dk_at dkX12_goesOn_6 10 rfl) (by decide +kernel) ?_
  refine x_callv (As := [.int (iI 5)]) (rest := []) ⟨hx, hb, hml, hown, hts⟩ (mb_X12_joins l dC dI cB cI cJ cZ cQ q _ 5 hI ⟨by decide, by decide⟩ (by exact hp0) hcCI hp4) (cwV 1 hts (goodV wlq_2_10 wlq_2_11 wlq_2_12 wlq_0_8 wlq_1_34) rfl rfl rfl (by decide +kernel) ⟨Nat.le_of_ble_eq_true rfl, Nat.le_of_ble_eq_true rfl⟩) hK hDD hA0 hP hS 0 12 wm0 rfl rfl hl.1 (Nat.le_of_ble_eq_true rfl) (dk_at dkX12_goesOn_6 11 rfl) (fun A275 H locs hw276 hP hS => ?_)
  have ghw276 : q_X12_joins 5 A A275 := hw276
  obtain ⟨_, hI, hf277, hw276⟩ := hw276
  obtain ⟨hc278, hw276⟩ := hw276
  obtain ⟨hc279, hw276⟩ := hw276
  have e_A275_53 : A275 0 53 = (A 0 53) := (hf277.2 53 rfl)
  have r_A275_0_56 : (0 : Int) ≤ (A275 0 56) ∧ (A275 0 56) ≤ 500 := hI 0 56
  have hj1 := hw276.1
  have hj2 := Hd.mk hw276.2
  clear hw276
  have hIj := hI
  have hrj := RI.room hj1 hIj
  have e_A275_3 : A275 0 3 = (A 0 3) := (hf277.2 3 rfl)
  have e_A275_4 : A275 0 4 = (A 0 4) := (hf277.2 4 rfl)
  have e_A275_5 : A275 0 5 = (A 0 5) := (hf277.2 5 rfl)
  have e_A275_7 : A275 0 7 = (A 0 7) := (hf277.2 7 rfl)
  have e_A275_8 : A275 0 8 = (A 0 8) := (hf277.2 8 rfl)
  have e_A275_47 : A275 0 47 = (A 0 47) := (hf277.2 47 rfl)
  have e_A275_54 : A275 0 54 = (A 0 54) := (hf277.2 54 rfl)
  have r_A275_0_46 : (0 : Int) ≤ (A275 0 46) ∧ (A275 0 46) ≤ 1600 := hI 0 46
  refine lv_aload_n hx hb (dk_at dkX12_goesOn_6 12 rfl) rfl (lv_at hl 0 rfl) ?_
  refine lv_aload_n hx hb (dk_at dkX12_goesOn_6 13 rfl) rfl (lv_at hl 0 rfl) ?_
  refine lv_bipush (v := iI 60) hx hb (dk_at dkX12_goesOn_6 14 rfl) (by decide +kernel) ?_
  have e_A275_6 : A275 0 6 = (A 0 6) := (hf277.2 6 rfl)
  have r_A_0_6 : (-2147483648 : Int) ≤ (A 0 6) ∧ (A 0 6) ≤ 2147483647 := by rw [← e_A275_6]; exact hI 0 6
  refine x_calli (As := [.int (iI 60)]) (rest := [.ref (q 0)]) ⟨hx, hb, hml, hown, hts⟩ (mb_X12_isSign l dC dI cB cI cJ cZ cQ q _ 60 hI ⟨by decide, by decide⟩) (cwV 1 hts (goodV wlq_0_37 wlq_0_38 wlq_0_39 wlq_0_8 wlq_0_34) rfl rfl rfl (by decide +kernel) ⟨Nat.le_of_ble_eq_true rfl, Nat.le_of_ble_eq_true rfl⟩) hK hDD hA0 hP hS 0 12 wm0 rfl rfl hl.1 (Nat.le_of_ble_eq_true rfl) (dk_at dkX12_goesOn_6 15 rfl) (fun z280 A281 H locs hw282 hP hS => ?_)
  obtain ⟨rfl, hw282⟩ := hw282
  have ghw282 : q_X12_isSign 60 A275 z280 := hw282
  have hw282 := hw282.2
  have rz280 : 0 ≤ z280 ∧ z280 ≤ 1 := hw282.1
  replace hw282 := Hd.mk hw282.2
  refine lv_if_eq (tgt := 235) hx hb (dk_at dkX12_goesOn_7 0 rfl) (by decide) (fun c283 => ?_) (fun c283 => ?_)
  · have c283 : z280 = 0 := (i_eq0 (rb rz280 (by decide) (by decide))).mp c283
    refine lv_aload_n hx hb (dk_at dkX12_goesOn_7 3 rfl) rfl (lv_at hl 0 rfl) ?_
    refine lv_bipush (v := iI 62) hx hb (dk_at dkX12_goesOn_7 4 rfl) (by decide +kernel) ?_
    refine x_calli (As := [.int (iI 62)]) (rest := [.ref (q 0)]) ⟨hx, hb, hml, hown, hts⟩ (mb_X12_isSign l dC dI cB cI cJ cZ cQ q _ 62 hI ⟨by decide, by decide⟩) (cwV 1 hts (goodV wlq_0_37 wlq_0_38 wlq_0_39 wlq_0_8 wlq_0_34) rfl rfl rfl (by decide +kernel) ⟨Nat.le_of_ble_eq_true rfl, Nat.le_of_ble_eq_true rfl⟩) hK hDD hA0 hP hS 0 12 wm0 rfl rfl hl.1 (Nat.le_of_ble_eq_true rfl) (dk_at dkX12_goesOn_7 5 rfl) (fun z284 A285 H locs hw286 hP hS => ?_)
    obtain ⟨rfl, hw286⟩ := hw286
    have ghw286 : q_X12_isSign 62 A275 z284 := hw286
    have hw286 := hw286.2
    have rz284 : 0 ≤ z284 ∧ z284 ≤ 1 := hw286.1
    replace hw286 := Hd.mk hw286.2
    refine lv_if_eq (tgt := 249) hx hb (dk_at dkX12_goesOn_7 6 rfl) (by decide) (fun c287 => ?_) (fun c287 => ?_)
    · have c287 : z284 = 0 := (i_eq0 (rb rz284 (by decide) (by decide))).mp c287
      refine lv_bipush (v := iI 19) hx hb (dk_at dkX12_goesOn_7 9 rfl) (by decide +kernel) ?_
      refine x_callv (As := [.int (iI 19)]) (rest := []) ⟨hx, hb, hml, hown, hts⟩ (mb_X12_holdsBack l dC dI cB cI cJ cZ cQ q _ 19 hI ⟨by decide, by decide⟩ (by omega)) (cwV 1 hts (goodV wlq_2_2 wlq_2_3 wlq_2_4 wlq_0_8 wlq_1_44) rfl rfl rfl (by decide +kernel) ⟨Nat.le_of_ble_eq_true rfl, Nat.le_of_ble_eq_true rfl⟩) hK hDD hA0 hP hS 0 12 wm0 rfl rfl hl.1 (Nat.le_of_ble_eq_true rfl) (dk_at dkX12_goesOn_7 10 rfl) (fun A288 H locs hw289 hP hS => ?_)
      have ghw289 : q_X12_holdsBack 19 A275 A288 := hw289
      obtain ⟨_, hI, hf290, hw289⟩ := hw289
      have r_A288_0_56 : (0 : Int) ≤ (A288 0 56) ∧ (A288 0 56) ≤ 500 := hI 0 56
      refine lv_aload_n hx hb (dk_at dkX12_goesOn_7 11 rfl) rfl (lv_at hl 0 rfl) ?_
      refine va_get (D := (dC, dI)) (ci := 12) (v := .ref (q 36)) (C := RX12) (T := TX12) (N := 85) hx hb hts hiX12 hown hK hP 0 wm0 rfl 49 (by decide) (hts _ (List.mem_cons_of_mem _ wlq_1_47)) (fun _ h9 => h9) rfl (dk_at dkX12_goesOn_7 12 rfl) ?_
      refine lv_iload_n hx hb (dk_at dkX12_goesOn_7 13 rfl) rfl (lv_at hl 1 rfl) ?_
      refine lv_iconst (v := iI 1) hx hb (dk_at dkX12_goesOn_7 14 rfl) (by decide +kernel) ?_
      refine x_iast hx hb hK hP hDD hS 36 1 wm36 rfl (by omega) (by decide) (dk_at dkX12_goesOn_7 15 rfl) ws36 (fun H locs hP hS => ?_)
      have hI := hI.st (j := 36) (i := ((A 0 53) - 1).toNat) (v := 1) (show (0 : Int) ≤ 1 ∧ 1 ≤ 2 from (by omega))
      refine lv_aload_n hx hb (dk_at dkX12_goesOn_8 0 rfl) rfl (lv_at hl 0 rfl) ?_
      obtain ⟨A291, hA291⟩ : ∃ A291 : St, A291 = (stA A288 36 ((A 0 53) - 1).toNat 1) := ⟨_, rfl⟩
      rw [← hA291] at hP hI
      have e_A288_4 : A288 0 4 = (A 0 4) := (hf290.2 4 rfl).trans e_A275_4
      have e_A291_4 : A291 0 4 = (A 0 4) := by rw [hA291]; exact e_A288_4
      have e_A288_5 : A288 0 5 = (A 0 5) := (hf290.2 5 rfl).trans e_A275_5
      have e_A291_5 : A291 0 5 = (A 0 5) := by rw [hA291]; exact e_A288_5
      have e_A288_8 : A288 0 8 = (A 0 8) := (hf290.2 8 rfl).trans e_A275_8
      have e_A291_8 : A291 0 8 = (A 0 8) := by rw [hA291]; exact e_A288_8
      refine x_callv (As := []) (rest := []) ⟨hx, hb, hml, hown, hts⟩ (mb_X12_ahead l dC dI cB cI cJ cZ cQ q _ hI) (cwV 0 hts (goodV wlq_0_40 wlq_0_41 wlq_0_42 wlq_0_8 wlq_0_20) rfl rfl rfl (by decide +kernel) ⟨Nat.le_of_ble_eq_true rfl, Nat.le_of_ble_eq_true rfl⟩) hK hDD hA0 hP hS 0 12 wm0 rfl rfl hl.1 (Nat.le_of_ble_eq_true rfl) (dk_at dkX12_goesOn_8 1 rfl) (fun A292 H locs hw293 hP hS => ?_)
      have ghw293 : q_X12_ahead A291 A292 := hw293
      obtain ⟨_, hI, hf294, hw293⟩ := hw293
      have r_A292_0_3 : (0 : Int) ≤ (A292 0 3) ∧ (A292 0 3) ≤ 3 := hI 0 3
      have r_A292_0_4 : (0 : Int) ≤ (A292 0 4) ∧ (A292 0 4) ≤ 1600 := hI 0 4
      have r_A292_0_5 : (0 : Int) ≤ (A292 0 5) ∧ (A292 0 5) ≤ 1600 := hI 0 5
      have r_A292_0_8 : (0 : Int) ≤ (A292 0 8) ∧ (A292 0 8) ≤ 5 := hI 0 8
      have hw293x := hw293.1
      have hw293y := hw293.2.1
      replace hw293 := Hd.mk hw293
      refine lv_aload_n hx hb (dk_at dkX12_goesOn_8 2 rfl) rfl (lv_at hl 0 rfl) ?_
      refine lv_iconst (v := iI 0) hx hb (dk_at dkX12_goesOn_8 3 rfl) (by decide +kernel) ?_
      refine x_put (D := (dC, dI)) (ci := 12) (v := .int (iI 0)) (ty := .boolean) (C := RX12) (T := TX12) (N := 85) hx hb hts hiX12 tyX12 tyX12_ok nmX12 hown hK hP hDD hS 0 wm0 rfl 57 (by decide) (hts _ (List.mem_cons_of_mem _ wlq_2_9)) (fun _ h9 => h9) rfl (by decide +kernel) (by decide +kernel) rfl (Nat.le_of_ble_eq_true rfl) (dk_at dkX12_goesOn_8 4 rfl) (wf57 (v := 0)) (fun H locs hP hS => ?_)
      have hI := hI.st (j := 0) (i := 57) (v := 0) (show (0 : Int) ≤ 0 ∧ 0 ≤ 1 from (by omega))
      refine lv_iconst (v := iI 1) hx hb (dk_at dkX12_goesOn_8 5 rfl) (by decide +kernel) ?_
      obtain ⟨A295, hA295⟩ : ∃ A295 : St, A295 = (stA A292 0 57 0) := ⟨_, rfl⟩
      rw [← hA295] at hP hI
      have e_A295_4 : A295 0 4 = (A292 0 4) := by rw [hA295]; exact rfl
      have e_A295_5 : A295 0 5 = (A292 0 5) := by rw [hA295]; exact rfl
      have e_A295_8 : A295 0 8 = (A292 0 8) := by rw [hA295]; exact rfl
      have e_A288_46 : A288 0 46 = (A275 0 46) := (hf290.2 46 rfl)
      have e_A291_46 : A291 0 46 = (A275 0 46) := by rw [hA291]; exact e_A288_46
      have e_A292_46 : A292 0 46 = (A275 0 46) := (hf294.2 46 rfl).trans e_A291_46
      have e_A295_46 : A295 0 46 = (A275 0 46) := by rw [hA295]; exact e_A292_46
      have e_A288_47 : A288 0 47 = (A 0 47) := (hf290.2 47 rfl).trans e_A275_47
      have e_A291_47 : A291 0 47 = (A 0 47) := by rw [hA291]; exact e_A288_47
      have e_A292_47 : A292 0 47 = (A 0 47) := (hf294.2 47 rfl).trans e_A291_47
      have e_A295_47 : A295 0 47 = (A 0 47) := by rw [hA295]; exact e_A292_47
      have e_A295_57 : A295 0 57 = 0 := by rw [hA295]; rfl
      have ca296 : A275 35 = A 35 := (hf277.1 35 (by decide) rfl)
      have ca297 : A295 1 = A292 1 := by rw [hA295]; exact rfl
      have e_A295_3 : A295 0 3 = (A292 0 3) := by rw [hA295]; exact rfl
      have e_A295_7 : A295 0 7 = (A292 0 7) := by rw [hA295]; exact rfl
      have hlt := RI.lt hp0 (by omega)
      have ca298 : A291 40 = A288 40 := by rw [hA291]; exact rfl
      have ca299 : A292 40 = A288 40 := (hf294.1 40 (by decide) rfl).trans ca298
      have ca300 : A295 40 = A288 40 := by rw [hA295]; exact ca299
      have e_A291_56 : A291 0 56 = (A288 0 56) := by rw [hA291]; exact rfl
      have e_A292_56 : A292 0 56 = (A288 0 56) := (hf294.2 56 rfl).trans e_A291_56
      have e_A295_56 : A295 0 56 = (A288 0 56) := by rw [hA295]; exact e_A292_56
      have ca301 : A288 29 = A275 29 := (hf290.1 29 (by decide) rfl)
      have ca302 : A291 29 = A275 29 := by rw [hA291]; exact ca301
      have ca303 : A292 29 = A275 29 := (hf294.1 29 (by decide) rfl).trans ca302
      have ca304 : A295 29 = A275 29 := by rw [hA295]; exact ca303
      have ca305 : A288 31 = A275 31 := (hf290.1 31 (by decide) rfl)
      have ca306 : A291 31 = A275 31 := by rw [hA291]; exact ca305
      have ca307 : A292 31 = A275 31 := (hf294.1 31 (by decide) rfl).trans ca306
      have ca308 : A295 31 = A275 31 := by rw [hA295]; exact ca307
      have ca309 : A288 33 = A275 33 := (hf290.1 33 (by decide) rfl)
      have ca310 : A291 33 = A275 33 := by rw [hA291]; exact ca309
      have ca311 : A292 33 = A275 33 := (hf294.1 33 (by decide) rfl).trans ca310
      have ca312 : A295 33 = A275 33 := by rw [hA295]; exact ca311
      have ca313 : A288 35 = A275 35 := (hf290.1 35 (by decide) rfl)
      have ca314 : A291 35 = A275 35 := by rw [hA291]; exact ca313
      have ca315 : A292 35 = A275 35 := (hf294.1 35 (by decide) rfl).trans ca314
      have ca316 : A295 35 = A275 35 := by rw [hA295]; exact ca315
      have ca317 : A288 37 = A275 37 := (hf290.1 37 (by decide) rfl)
      have ca318 : A291 37 = A275 37 := by rw [hA291]; exact ca317
      have ca319 : A292 37 = A275 37 := (hf294.1 37 (by decide) rfl).trans ca318
      have ca320 : A295 37 = A275 37 := by rw [hA295]; exact ca319
      have ca321 : A288 39 = A275 39 := (hf290.1 39 (by decide) rfl)
      have ca322 : A291 39 = A275 39 := by rw [hA291]; exact ca321
      have ca323 : A292 39 = A275 39 := (hf294.1 39 (by decide) rfl).trans ca322
      have ca324 : A295 39 = A275 39 := by rw [hA295]; exact ca323
      have e_A288_53 : A288 0 53 = (A 0 53) := (hf290.2 53 rfl).trans e_A275_53
      have e_A291_53 : A291 0 53 = (A 0 53) := by rw [hA291]; exact e_A288_53
      have e_A292_53 : A292 0 53 = (A 0 53) := (hf294.2 53 rfl).trans e_A291_53
      have e_A295_53 : A295 0 53 = (A 0 53) := by rw [hA295]; exact e_A292_53
      have e_A288_54 : A288 0 54 = (A 0 54) := (hf290.2 54 rfl).trans e_A275_54
      have e_A291_54 : A291 0 54 = (A 0 54) := by rw [hA291]; exact e_A288_54
      have e_A292_54 : A292 0 54 = (A 0 54) := (hf294.2 54 rfl).trans e_A291_54
      have e_A295_54 : A295 0 54 = (A 0 54) := by rw [hA295]; exact e_A292_54
      have ca325 : A288 36 = A275 36 := (hf290.1 36 (by decide) rfl)
      have e36 : A291 36 = up (A275 36) ((A 0 53) - 1).toNat 1 := by rw [hA291]; show up (A288 36) _ _ = _; rw [ca325]
      have ca326 : A292 36 = A291 36 := (hf294.1 36 (by decide) rfl)
      have ca327 : A295 36 = A291 36 := by rw [hA295]; exact ca326
      have ca328 : A275 36 = A 36 := (hf277.1 36 (by decide) rfl)
      have h36 : A275 36 (A275 0 53 - 1).toNat = 0 := by rw [ca328, e_A275_53]; omega
      have hlow := SP.low (k := 0) hc279 h36 hIj (RI.base hj1) hj2.out
      have ca329 : A288 39 = A275 39 := (hf290.1 39 (by decide) rfl)
      have ca330 : A291 39 = A275 39 := by rw [hA291]; exact ca329
      have ca331 : A292 39 = A275 39 := (hf294.1 39 (by decide) rfl).trans ca330
      have ca332 : A295 39 = A275 39 := by rw [hA295]; exact ca331
      exact RET 1 _ _ _ _ _ ⟨hk3 _ _ (u_d_X12_goesOn_3 ⟨A275, ghw276, ⟨z280, ghw282, (Or.inl ⟨c283, ⟨z284, ghw286, (Or.inl ⟨c287, ⟨A288, ghw289, ⟨A291, hA291, ⟨A292, ghw293, ⟨A295, hA295, ⟨rfl, rfl⟩⟩⟩⟩⟩⟩)⟩⟩)⟩⟩), hI, fr_def hA295 (fr.sf (fr.trans (fr_def hA291 (fr.st (fr.trans (fr.trans (fr.rf) hf277 rfl rfl) hf290 rfl rfl) (by decide) rfl)) hf294 rfl rfl) rfl), (CI.fr (CI.fr (CI.fr (CI.fr hc278 hf290 rfl rfl) (fr_def hA291 (fr.st (fr.rf (M := [36]) (N := [])) (by decide) rfl)) rfl rfl) hf294 rfl rfl) (fr_def hA295 (fr.sf (fr.rf (M := []) (N := [57])) rfl)) rfl rfl), ⟨by decide, Hd.mk (fun h0 => ⟨fun _ => ⟨by rw [e_A295_57]; exact RI.op (x := 19) (r37 := A275 37) hj1 hIj (by rw [e_A275_3]; rw [hs3]; decide) (by decide) (hlow.imp id (fun t => by rw [show rk 19 = 4 by decide]; exact t)) (fun _ _ => rfl) (fun h => absurd h (by rw [RI.nn hj1 rfl]; decide)) ⟨ca304, ca308, ca312, ca316, ca320, ca324, (ca300.trans hw289.2), e_A295_46, (e_A295_47.trans e_A275_47.symm), (e_A295_53.trans e_A275_53.symm), (e_A295_54.trans e_A275_54.symm), (e_A295_56.trans hw289.1)⟩ (by rw [← (e_A291_5.trans e_A275_5.symm), e_A295_4]; exact hw293x) (by rw [e_A295_4, e_A295_5]; exact hw293y) (LX.of ca297 e_A295_3 e_A295_4 e_A295_5 e_A295_7 hw293.out.2.2.1), ⟨(PR.fr (PR.fr (PR.fr (PR.fr (PR.fr hp2 hf277 rfl rfl) hf290 rfl rfl) (fr_def hA291 (fr.st (fr.rf (M := [36]) (N := [])) (by decide) rfl)) rfl rfl) hf294 rfl rfl) (fr_def hA295 (fr.sf (fr.rf (M := []) (N := [57])) rfl)) rfl rfl), SP.push (x := 19) (ph := 1) (r36 := up (A275 36) ((A 0 53) - 1).toNat 1) hc279 hIj hj1.2.1 (RI.deep hj1 hIj).1 (ca327.trans e36) (fun i hi => up_lo e_A275_53 hi) (by rw [e_A275_53, up_same]) ca332 (ca300.trans hw289.2) (e_A295_53.trans e_A275_53.symm) (e_A295_56.trans hw289.1) ((hlow.imp id (fun t => by rw [show rk 19 = 4 by decide]; exact t)).imp id Int.le_of_lt) (fun h => absurd h (by decide))⟩, by omega⟩, fun h => absurd h (by decide)⟩)⟩⟩ hP hS (dk_at dkX12_goesOn_8 6 rfl)
    · have c287 : ¬ z284 = 0 := mt (i_eq0 (rb rz284 (by decide) (by decide))).mpr c287
      have hw286b := hw286.out.mp (by omega)
      refine lv_bipush (v := iI 18) hx hb (dk_at dkX12_goesOn_7 7 rfl) (by decide +kernel) ?_
      refine lv_goto (tgt := 251) hx hb (dk_at dkX12_goesOn_7 8 rfl) (by decide) ?_
      refine x_callv (As := [.int (iI 18)]) (rest := []) ⟨hx, hb, hml, hown, hts⟩ (mb_X12_holdsBack l dC dI cB cI cJ cZ cQ q _ 18 hI ⟨by decide, by decide⟩ (by omega)) (cwV 1 hts (goodV wlq_2_2 wlq_2_3 wlq_2_4 wlq_0_8 wlq_1_44) rfl rfl rfl (by decide +kernel) ⟨Nat.le_of_ble_eq_true rfl, Nat.le_of_ble_eq_true rfl⟩) hK hDD hA0 hP hS 0 12 wm0 rfl rfl hl.1 (Nat.le_of_ble_eq_true rfl) (dk_at dkX12_goesOn_7 10 rfl) (fun A333 H locs hw334 hP hS => ?_)
      have ghw334 : q_X12_holdsBack 18 A275 A333 := hw334
      obtain ⟨_, hI, hf335, hw334⟩ := hw334
      have r_A333_0_56 : (0 : Int) ≤ (A333 0 56) ∧ (A333 0 56) ≤ 500 := hI 0 56
      refine lv_aload_n hx hb (dk_at dkX12_goesOn_7 11 rfl) rfl (lv_at hl 0 rfl) ?_
      refine va_get (D := (dC, dI)) (ci := 12) (v := .ref (q 36)) (C := RX12) (T := TX12) (N := 85) hx hb hts hiX12 hown hK hP 0 wm0 rfl 49 (by decide) (hts _ (List.mem_cons_of_mem _ wlq_1_47)) (fun _ h9 => h9) rfl (dk_at dkX12_goesOn_7 12 rfl) ?_
      refine lv_iload_n hx hb (dk_at dkX12_goesOn_7 13 rfl) rfl (lv_at hl 1 rfl) ?_
      refine lv_iconst (v := iI 1) hx hb (dk_at dkX12_goesOn_7 14 rfl) (by decide +kernel) ?_
      refine x_iast hx hb hK hP hDD hS 36 1 wm36 rfl (by omega) (by decide) (dk_at dkX12_goesOn_7 15 rfl) ws36 (fun H locs hP hS => ?_)
      have hI := hI.st (j := 36) (i := ((A 0 53) - 1).toNat) (v := 1) (show (0 : Int) ≤ 1 ∧ 1 ≤ 2 from (by omega))
      refine lv_aload_n hx hb (dk_at dkX12_goesOn_8 0 rfl) rfl (lv_at hl 0 rfl) ?_
      obtain ⟨A336, hA336⟩ : ∃ A336 : St, A336 = (stA A333 36 ((A 0 53) - 1).toNat 1) := ⟨_, rfl⟩
      rw [← hA336] at hP hI
      have e_A333_4 : A333 0 4 = (A 0 4) := (hf335.2 4 rfl).trans e_A275_4
      have e_A336_4 : A336 0 4 = (A 0 4) := by rw [hA336]; exact e_A333_4
      have e_A333_5 : A333 0 5 = (A 0 5) := (hf335.2 5 rfl).trans e_A275_5
      have e_A336_5 : A336 0 5 = (A 0 5) := by rw [hA336]; exact e_A333_5
      have e_A333_8 : A333 0 8 = (A 0 8) := (hf335.2 8 rfl).trans e_A275_8
      have e_A336_8 : A336 0 8 = (A 0 8) := by rw [hA336]; exact e_A333_8
      refine x_callv (As := []) (rest := []) ⟨hx, hb, hml, hown, hts⟩ (mb_X12_ahead l dC dI cB cI cJ cZ cQ q _ hI) (cwV 0 hts (goodV wlq_0_40 wlq_0_41 wlq_0_42 wlq_0_8 wlq_0_20) rfl rfl rfl (by decide +kernel) ⟨Nat.le_of_ble_eq_true rfl, Nat.le_of_ble_eq_true rfl⟩) hK hDD hA0 hP hS 0 12 wm0 rfl rfl hl.1 (Nat.le_of_ble_eq_true rfl) (dk_at dkX12_goesOn_8 1 rfl) (fun A337 H locs hw338 hP hS => ?_)
      have ghw338 : q_X12_ahead A336 A337 := hw338
      obtain ⟨_, hI, hf339, hw338⟩ := hw338
      have r_A337_0_3 : (0 : Int) ≤ (A337 0 3) ∧ (A337 0 3) ≤ 3 := hI 0 3
      have r_A337_0_4 : (0 : Int) ≤ (A337 0 4) ∧ (A337 0 4) ≤ 1600 := hI 0 4
      have r_A337_0_5 : (0 : Int) ≤ (A337 0 5) ∧ (A337 0 5) ≤ 1600 := hI 0 5
      have r_A337_0_8 : (0 : Int) ≤ (A337 0 8) ∧ (A337 0 8) ≤ 5 := hI 0 8
      have hw338x := hw338.1
      have hw338y := hw338.2.1
      replace hw338 := Hd.mk hw338
      refine lv_aload_n hx hb (dk_at dkX12_goesOn_8 2 rfl) rfl (lv_at hl 0 rfl) ?_
      refine lv_iconst (v := iI 0) hx hb (dk_at dkX12_goesOn_8 3 rfl) (by decide +kernel) ?_
      refine x_put (D := (dC, dI)) (ci := 12) (v := .int (iI 0)) (ty := .boolean) (C := RX12) (T := TX12) (N := 85) hx hb hts hiX12 tyX12 tyX12_ok nmX12 hown hK hP hDD hS 0 wm0 rfl 57 (by decide) (hts _ (List.mem_cons_of_mem _ wlq_2_9)) (fun _ h9 => h9) rfl (by decide +kernel) (by decide +kernel) rfl (Nat.le_of_ble_eq_true rfl) (dk_at dkX12_goesOn_8 4 rfl) (wf57 (v := 0)) (fun H locs hP hS => ?_)
      have hI := hI.st (j := 0) (i := 57) (v := 0) (show (0 : Int) ≤ 0 ∧ 0 ≤ 1 from (by omega))
      refine lv_iconst (v := iI 1) hx hb (dk_at dkX12_goesOn_8 5 rfl) (by decide +kernel) ?_
      obtain ⟨A340, hA340⟩ : ∃ A340 : St, A340 = (stA A337 0 57 0) := ⟨_, rfl⟩
      rw [← hA340] at hP hI
      have e_A340_4 : A340 0 4 = (A337 0 4) := by rw [hA340]; exact rfl
      have e_A340_5 : A340 0 5 = (A337 0 5) := by rw [hA340]; exact rfl
      have e_A340_8 : A340 0 8 = (A337 0 8) := by rw [hA340]; exact rfl
      have e_A333_46 : A333 0 46 = (A275 0 46) := (hf335.2 46 rfl)
      have e_A336_46 : A336 0 46 = (A275 0 46) := by rw [hA336]; exact e_A333_46
      have e_A337_46 : A337 0 46 = (A275 0 46) := (hf339.2 46 rfl).trans e_A336_46
      have e_A340_46 : A340 0 46 = (A275 0 46) := by rw [hA340]; exact e_A337_46
      have e_A333_47 : A333 0 47 = (A 0 47) := (hf335.2 47 rfl).trans e_A275_47
      have e_A336_47 : A336 0 47 = (A 0 47) := by rw [hA336]; exact e_A333_47
      have e_A337_47 : A337 0 47 = (A 0 47) := (hf339.2 47 rfl).trans e_A336_47
      have e_A340_47 : A340 0 47 = (A 0 47) := by rw [hA340]; exact e_A337_47
      have e_A340_57 : A340 0 57 = 0 := by rw [hA340]; rfl
      have ca341 : A275 35 = A 35 := (hf277.1 35 (by decide) rfl)
      have ca342 : A340 1 = A337 1 := by rw [hA340]; exact rfl
      have e_A340_3 : A340 0 3 = (A337 0 3) := by rw [hA340]; exact rfl
      have e_A340_7 : A340 0 7 = (A337 0 7) := by rw [hA340]; exact rfl
      have hlt := RI.lt hp0 (by omega)
      have ca343 : A336 40 = A333 40 := by rw [hA336]; exact rfl
      have ca344 : A337 40 = A333 40 := (hf339.1 40 (by decide) rfl).trans ca343
      have ca345 : A340 40 = A333 40 := by rw [hA340]; exact ca344
      have e_A336_56 : A336 0 56 = (A333 0 56) := by rw [hA336]; exact rfl
      have e_A337_56 : A337 0 56 = (A333 0 56) := (hf339.2 56 rfl).trans e_A336_56
      have e_A340_56 : A340 0 56 = (A333 0 56) := by rw [hA340]; exact e_A337_56
      have ca346 : A333 29 = A275 29 := (hf335.1 29 (by decide) rfl)
      have ca347 : A336 29 = A275 29 := by rw [hA336]; exact ca346
      have ca348 : A337 29 = A275 29 := (hf339.1 29 (by decide) rfl).trans ca347
      have ca349 : A340 29 = A275 29 := by rw [hA340]; exact ca348
      have ca350 : A333 31 = A275 31 := (hf335.1 31 (by decide) rfl)
      have ca351 : A336 31 = A275 31 := by rw [hA336]; exact ca350
      have ca352 : A337 31 = A275 31 := (hf339.1 31 (by decide) rfl).trans ca351
      have ca353 : A340 31 = A275 31 := by rw [hA340]; exact ca352
      have ca354 : A333 33 = A275 33 := (hf335.1 33 (by decide) rfl)
      have ca355 : A336 33 = A275 33 := by rw [hA336]; exact ca354
      have ca356 : A337 33 = A275 33 := (hf339.1 33 (by decide) rfl).trans ca355
      have ca357 : A340 33 = A275 33 := by rw [hA340]; exact ca356
      have ca358 : A333 35 = A275 35 := (hf335.1 35 (by decide) rfl)
      have ca359 : A336 35 = A275 35 := by rw [hA336]; exact ca358
      have ca360 : A337 35 = A275 35 := (hf339.1 35 (by decide) rfl).trans ca359
      have ca361 : A340 35 = A275 35 := by rw [hA340]; exact ca360
      have ca362 : A333 37 = A275 37 := (hf335.1 37 (by decide) rfl)
      have ca363 : A336 37 = A275 37 := by rw [hA336]; exact ca362
      have ca364 : A337 37 = A275 37 := (hf339.1 37 (by decide) rfl).trans ca363
      have ca365 : A340 37 = A275 37 := by rw [hA340]; exact ca364
      have ca366 : A333 39 = A275 39 := (hf335.1 39 (by decide) rfl)
      have ca367 : A336 39 = A275 39 := by rw [hA336]; exact ca366
      have ca368 : A337 39 = A275 39 := (hf339.1 39 (by decide) rfl).trans ca367
      have ca369 : A340 39 = A275 39 := by rw [hA340]; exact ca368
      have e_A333_53 : A333 0 53 = (A 0 53) := (hf335.2 53 rfl).trans e_A275_53
      have e_A336_53 : A336 0 53 = (A 0 53) := by rw [hA336]; exact e_A333_53
      have e_A337_53 : A337 0 53 = (A 0 53) := (hf339.2 53 rfl).trans e_A336_53
      have e_A340_53 : A340 0 53 = (A 0 53) := by rw [hA340]; exact e_A337_53
      have e_A333_54 : A333 0 54 = (A 0 54) := (hf335.2 54 rfl).trans e_A275_54
      have e_A336_54 : A336 0 54 = (A 0 54) := by rw [hA336]; exact e_A333_54
      have e_A337_54 : A337 0 54 = (A 0 54) := (hf339.2 54 rfl).trans e_A336_54
      have e_A340_54 : A340 0 54 = (A 0 54) := by rw [hA340]; exact e_A337_54
      have ca370 : A333 36 = A275 36 := (hf335.1 36 (by decide) rfl)
      have e36 : A336 36 = up (A275 36) ((A 0 53) - 1).toNat 1 := by rw [hA336]; show up (A333 36) _ _ = _; rw [ca370]
      have ca371 : A337 36 = A336 36 := (hf339.1 36 (by decide) rfl)
      have ca372 : A340 36 = A336 36 := by rw [hA340]; exact ca371
      have ca373 : A275 36 = A 36 := (hf277.1 36 (by decide) rfl)
      have h36 : A275 36 (A275 0 53 - 1).toNat = 0 := by rw [ca373, e_A275_53]; omega
      have hlow := SP.low (k := 0) hc279 h36 hIj (RI.base hj1) hj2.out
      have ca374 : A333 39 = A275 39 := (hf335.1 39 (by decide) rfl)
      have ca375 : A336 39 = A275 39 := by rw [hA336]; exact ca374
      have ca376 : A337 39 = A275 39 := (hf339.1 39 (by decide) rfl).trans ca375
      have ca377 : A340 39 = A275 39 := by rw [hA340]; exact ca376
      exact RET 1 _ _ _ _ _ ⟨hk3 _ _ (u_d_X12_goesOn_3 ⟨A275, ghw276, ⟨z280, ghw282, (Or.inl ⟨c283, ⟨z284, ghw286, (Or.inr ⟨c287, ⟨A333, ghw334, ⟨A336, hA336, ⟨A337, ghw338, ⟨A340, hA340, ⟨rfl, rfl⟩⟩⟩⟩⟩⟩)⟩⟩)⟩⟩), hI, fr_def hA340 (fr.sf (fr.trans (fr_def hA336 (fr.st (fr.trans (fr.trans (fr.rf) hf277 rfl rfl) hf335 rfl rfl) (by decide) rfl)) hf339 rfl rfl) rfl), (CI.fr (CI.fr (CI.fr (CI.fr hc278 hf335 rfl rfl) (fr_def hA336 (fr.st (fr.rf (M := [36]) (N := [])) (by decide) rfl)) rfl rfl) hf339 rfl rfl) (fr_def hA340 (fr.sf (fr.rf (M := []) (N := [57])) rfl)) rfl rfl), ⟨by decide, Hd.mk (fun h0 => ⟨fun _ => ⟨by rw [e_A340_57]; exact RI.op (x := 18) (r37 := A275 37) hj1 hIj (by rw [e_A275_3]; rw [hs3]; decide) (by decide) (hlow.imp id (fun t => by rw [show rk 18 = 4 by decide]; exact t)) (fun _ _ => rfl) (fun h => absurd h (by rw [RI.nn hj1 rfl]; decide)) ⟨ca349, ca353, ca357, ca361, ca365, ca369, (ca345.trans hw334.2), e_A340_46, (e_A340_47.trans e_A275_47.symm), (e_A340_53.trans e_A275_53.symm), (e_A340_54.trans e_A275_54.symm), (e_A340_56.trans hw334.1)⟩ (by rw [← (e_A336_5.trans e_A275_5.symm), e_A340_4]; exact hw338x) (by rw [e_A340_4, e_A340_5]; exact hw338y) (LX.of ca342 e_A340_3 e_A340_4 e_A340_5 e_A340_7 hw338.out.2.2.1), ⟨(PR.fr (PR.fr (PR.fr (PR.fr (PR.fr hp2 hf277 rfl rfl) hf335 rfl rfl) (fr_def hA336 (fr.st (fr.rf (M := [36]) (N := [])) (by decide) rfl)) rfl rfl) hf339 rfl rfl) (fr_def hA340 (fr.sf (fr.rf (M := []) (N := [57])) rfl)) rfl rfl), SP.push (x := 18) (ph := 1) (r36 := up (A275 36) ((A 0 53) - 1).toNat 1) hc279 hIj hj1.2.1 (RI.deep hj1 hIj).1 (ca372.trans e36) (fun i hi => up_lo e_A275_53 hi) (by rw [e_A275_53, up_same]) ca377 (ca345.trans hw334.2) (e_A340_53.trans e_A275_53.symm) (e_A340_56.trans hw334.1) ((hlow.imp id (fun t => by rw [show rk 18 = 4 by decide]; exact t)).imp id Int.le_of_lt) (fun h => absurd h (by decide))⟩, by omega⟩, fun h => absurd h (by decide)⟩)⟩⟩ hP hS (dk_at dkX12_goesOn_8 6 rfl)
  · have c283 : ¬ z280 = 0 := mt (i_eq0 (rb rz280 (by decide) (by decide))).mpr c283
    have hw282b := hw282.out.mp (by omega)
    refine lv_bipush (v := iI 17) hx hb (dk_at dkX12_goesOn_7 1 rfl) (by decide +kernel) ?_
    refine lv_goto (tgt := 251) hx hb (dk_at dkX12_goesOn_7 2 rfl) (by decide) ?_
    refine x_callv (As := [.int (iI 17)]) (rest := []) ⟨hx, hb, hml, hown, hts⟩ (mb_X12_holdsBack l dC dI cB cI cJ cZ cQ q _ 17 hI ⟨by decide, by decide⟩ (by omega)) (cwV 1 hts (goodV wlq_2_2 wlq_2_3 wlq_2_4 wlq_0_8 wlq_1_44) rfl rfl rfl (by decide +kernel) ⟨Nat.le_of_ble_eq_true rfl, Nat.le_of_ble_eq_true rfl⟩) hK hDD hA0 hP hS 0 12 wm0 rfl rfl hl.1 (Nat.le_of_ble_eq_true rfl) (dk_at dkX12_goesOn_7 10 rfl) (fun A378 H locs hw379 hP hS => ?_)
    have ghw379 : q_X12_holdsBack 17 A275 A378 := hw379
    obtain ⟨_, hI, hf380, hw379⟩ := hw379
    have r_A378_0_56 : (0 : Int) ≤ (A378 0 56) ∧ (A378 0 56) ≤ 500 := hI 0 56
    refine lv_aload_n hx hb (dk_at dkX12_goesOn_7 11 rfl) rfl (lv_at hl 0 rfl) ?_
    refine va_get (D := (dC, dI)) (ci := 12) (v := .ref (q 36)) (C := RX12) (T := TX12) (N := 85) hx hb hts hiX12 hown hK hP 0 wm0 rfl 49 (by decide) (hts _ (List.mem_cons_of_mem _ wlq_1_47)) (fun _ h9 => h9) rfl (dk_at dkX12_goesOn_7 12 rfl) ?_
    refine lv_iload_n hx hb (dk_at dkX12_goesOn_7 13 rfl) rfl (lv_at hl 1 rfl) ?_
    refine lv_iconst (v := iI 1) hx hb (dk_at dkX12_goesOn_7 14 rfl) (by decide +kernel) ?_
    refine x_iast hx hb hK hP hDD hS 36 1 wm36 rfl (by omega) (by decide) (dk_at dkX12_goesOn_7 15 rfl) ws36 (fun H locs hP hS => ?_)
    have hI := hI.st (j := 36) (i := ((A 0 53) - 1).toNat) (v := 1) (show (0 : Int) ≤ 1 ∧ 1 ≤ 2 from (by omega))
    refine lv_aload_n hx hb (dk_at dkX12_goesOn_8 0 rfl) rfl (lv_at hl 0 rfl) ?_
    obtain ⟨A381, hA381⟩ : ∃ A381 : St, A381 = (stA A378 36 ((A 0 53) - 1).toNat 1) := ⟨_, rfl⟩
    rw [← hA381] at hP hI
    have e_A378_4 : A378 0 4 = (A 0 4) := (hf380.2 4 rfl).trans e_A275_4
    have e_A381_4 : A381 0 4 = (A 0 4) := by rw [hA381]; exact e_A378_4
    have e_A378_5 : A378 0 5 = (A 0 5) := (hf380.2 5 rfl).trans e_A275_5
    have e_A381_5 : A381 0 5 = (A 0 5) := by rw [hA381]; exact e_A378_5
    have e_A378_8 : A378 0 8 = (A 0 8) := (hf380.2 8 rfl).trans e_A275_8
    have e_A381_8 : A381 0 8 = (A 0 8) := by rw [hA381]; exact e_A378_8
    refine x_callv (As := []) (rest := []) ⟨hx, hb, hml, hown, hts⟩ (mb_X12_ahead l dC dI cB cI cJ cZ cQ q _ hI) (cwV 0 hts (goodV wlq_0_40 wlq_0_41 wlq_0_42 wlq_0_8 wlq_0_20) rfl rfl rfl (by decide +kernel) ⟨Nat.le_of_ble_eq_true rfl, Nat.le_of_ble_eq_true rfl⟩) hK hDD hA0 hP hS 0 12 wm0 rfl rfl hl.1 (Nat.le_of_ble_eq_true rfl) (dk_at dkX12_goesOn_8 1 rfl) (fun A382 H locs hw383 hP hS => ?_)
    have ghw383 : q_X12_ahead A381 A382 := hw383
    obtain ⟨_, hI, hf384, hw383⟩ := hw383
    have r_A382_0_3 : (0 : Int) ≤ (A382 0 3) ∧ (A382 0 3) ≤ 3 := hI 0 3
    have r_A382_0_4 : (0 : Int) ≤ (A382 0 4) ∧ (A382 0 4) ≤ 1600 := hI 0 4
    have r_A382_0_5 : (0 : Int) ≤ (A382 0 5) ∧ (A382 0 5) ≤ 1600 := hI 0 5
    have r_A382_0_8 : (0 : Int) ≤ (A382 0 8) ∧ (A382 0 8) ≤ 5 := hI 0 8
    have hw383x := hw383.1
    have hw383y := hw383.2.1
    replace hw383 := Hd.mk hw383
    refine lv_aload_n hx hb (dk_at dkX12_goesOn_8 2 rfl) rfl (lv_at hl 0 rfl) ?_
    refine lv_iconst (v := iI 0) hx hb (dk_at dkX12_goesOn_8 3 rfl) (by decide +kernel) ?_
    refine x_put (D := (dC, dI)) (ci := 12) (v := .int (iI 0)) (ty := .boolean) (C := RX12) (T := TX12) (N := 85) hx hb hts hiX12 tyX12 tyX12_ok nmX12 hown hK hP hDD hS 0 wm0 rfl 57 (by decide) (hts _ (List.mem_cons_of_mem _ wlq_2_9)) (fun _ h9 => h9) rfl (by decide +kernel) (by decide +kernel) rfl (Nat.le_of_ble_eq_true rfl) (dk_at dkX12_goesOn_8 4 rfl) (wf57 (v := 0)) (fun H locs hP hS => ?_)
    have hI := hI.st (j := 0) (i := 57) (v := 0) (show (0 : Int) ≤ 0 ∧ 0 ≤ 1 from (by omega))
    refine lv_iconst (v := iI 1) hx hb (dk_at dkX12_goesOn_8 5 rfl) (by decide +kernel) ?_
    obtain ⟨A385, hA385⟩ : ∃ A385 : St, A385 = (stA A382 0 57 0) := ⟨_, rfl⟩
    rw [← hA385] at hP hI
    have e_A385_4 : A385 0 4 = (A382 0 4) := by rw [hA385]; exact rfl
    have e_A385_5 : A385 0 5 = (A382 0 5) := by rw [hA385]; exact rfl
    have e_A385_8 : A385 0 8 = (A382 0 8) := by rw [hA385]; exact rfl
    have e_A378_46 : A378 0 46 = (A275 0 46) := (hf380.2 46 rfl)
    have e_A381_46 : A381 0 46 = (A275 0 46) := by rw [hA381]; exact e_A378_46
    have e_A382_46 : A382 0 46 = (A275 0 46) := (hf384.2 46 rfl).trans e_A381_46
    have e_A385_46 : A385 0 46 = (A275 0 46) := by rw [hA385]; exact e_A382_46
    have e_A378_47 : A378 0 47 = (A 0 47) := (hf380.2 47 rfl).trans e_A275_47
    have e_A381_47 : A381 0 47 = (A 0 47) := by rw [hA381]; exact e_A378_47
    have e_A382_47 : A382 0 47 = (A 0 47) := (hf384.2 47 rfl).trans e_A381_47
    have e_A385_47 : A385 0 47 = (A 0 47) := by rw [hA385]; exact e_A382_47
    have e_A385_57 : A385 0 57 = 0 := by rw [hA385]; rfl
    have ca386 : A275 35 = A 35 := (hf277.1 35 (by decide) rfl)
    have ca387 : A385 1 = A382 1 := by rw [hA385]; exact rfl
    have e_A385_3 : A385 0 3 = (A382 0 3) := by rw [hA385]; exact rfl
    have e_A385_7 : A385 0 7 = (A382 0 7) := by rw [hA385]; exact rfl
    have hlt := RI.lt hp0 (by omega)
    have ca388 : A381 40 = A378 40 := by rw [hA381]; exact rfl
    have ca389 : A382 40 = A378 40 := (hf384.1 40 (by decide) rfl).trans ca388
    have ca390 : A385 40 = A378 40 := by rw [hA385]; exact ca389
    have e_A381_56 : A381 0 56 = (A378 0 56) := by rw [hA381]; exact rfl
    have e_A382_56 : A382 0 56 = (A378 0 56) := (hf384.2 56 rfl).trans e_A381_56
    have e_A385_56 : A385 0 56 = (A378 0 56) := by rw [hA385]; exact e_A382_56
    have ca391 : A378 29 = A275 29 := (hf380.1 29 (by decide) rfl)
    have ca392 : A381 29 = A275 29 := by rw [hA381]; exact ca391
    have ca393 : A382 29 = A275 29 := (hf384.1 29 (by decide) rfl).trans ca392
    have ca394 : A385 29 = A275 29 := by rw [hA385]; exact ca393
    have ca395 : A378 31 = A275 31 := (hf380.1 31 (by decide) rfl)
    have ca396 : A381 31 = A275 31 := by rw [hA381]; exact ca395
    have ca397 : A382 31 = A275 31 := (hf384.1 31 (by decide) rfl).trans ca396
    have ca398 : A385 31 = A275 31 := by rw [hA385]; exact ca397
    have ca399 : A378 33 = A275 33 := (hf380.1 33 (by decide) rfl)
    have ca400 : A381 33 = A275 33 := by rw [hA381]; exact ca399
    have ca401 : A382 33 = A275 33 := (hf384.1 33 (by decide) rfl).trans ca400
    have ca402 : A385 33 = A275 33 := by rw [hA385]; exact ca401
    have ca403 : A378 35 = A275 35 := (hf380.1 35 (by decide) rfl)
    have ca404 : A381 35 = A275 35 := by rw [hA381]; exact ca403
    have ca405 : A382 35 = A275 35 := (hf384.1 35 (by decide) rfl).trans ca404
    have ca406 : A385 35 = A275 35 := by rw [hA385]; exact ca405
    have ca407 : A378 37 = A275 37 := (hf380.1 37 (by decide) rfl)
    have ca408 : A381 37 = A275 37 := by rw [hA381]; exact ca407
    have ca409 : A382 37 = A275 37 := (hf384.1 37 (by decide) rfl).trans ca408
    have ca410 : A385 37 = A275 37 := by rw [hA385]; exact ca409
    have ca411 : A378 39 = A275 39 := (hf380.1 39 (by decide) rfl)
    have ca412 : A381 39 = A275 39 := by rw [hA381]; exact ca411
    have ca413 : A382 39 = A275 39 := (hf384.1 39 (by decide) rfl).trans ca412
    have ca414 : A385 39 = A275 39 := by rw [hA385]; exact ca413
    have e_A378_53 : A378 0 53 = (A 0 53) := (hf380.2 53 rfl).trans e_A275_53
    have e_A381_53 : A381 0 53 = (A 0 53) := by rw [hA381]; exact e_A378_53
    have e_A382_53 : A382 0 53 = (A 0 53) := (hf384.2 53 rfl).trans e_A381_53
    have e_A385_53 : A385 0 53 = (A 0 53) := by rw [hA385]; exact e_A382_53
    have e_A378_54 : A378 0 54 = (A 0 54) := (hf380.2 54 rfl).trans e_A275_54
    have e_A381_54 : A381 0 54 = (A 0 54) := by rw [hA381]; exact e_A378_54
    have e_A382_54 : A382 0 54 = (A 0 54) := (hf384.2 54 rfl).trans e_A381_54
    have e_A385_54 : A385 0 54 = (A 0 54) := by rw [hA385]; exact e_A382_54
    have ca415 : A378 36 = A275 36 := (hf380.1 36 (by decide) rfl)
    have e36 : A381 36 = up (A275 36) ((A 0 53) - 1).toNat 1 := by rw [hA381]; show up (A378 36) _ _ = _; rw [ca415]
    have ca416 : A382 36 = A381 36 := (hf384.1 36 (by decide) rfl)
    have ca417 : A385 36 = A381 36 := by rw [hA385]; exact ca416
    have ca418 : A275 36 = A 36 := (hf277.1 36 (by decide) rfl)
    have h36 : A275 36 (A275 0 53 - 1).toNat = 0 := by rw [ca418, e_A275_53]; omega
    have hlow := SP.low (k := 0) hc279 h36 hIj (RI.base hj1) hj2.out
    have ca419 : A378 39 = A275 39 := (hf380.1 39 (by decide) rfl)
    have ca420 : A381 39 = A275 39 := by rw [hA381]; exact ca419
    have ca421 : A382 39 = A275 39 := (hf384.1 39 (by decide) rfl).trans ca420
    have ca422 : A385 39 = A275 39 := by rw [hA385]; exact ca421
    exact RET 1 _ _ _ _ _ ⟨hk3 _ _ (u_d_X12_goesOn_3 ⟨A275, ghw276, ⟨z280, ghw282, (Or.inr ⟨c283, ⟨A378, ghw379, ⟨A381, hA381, ⟨A382, ghw383, ⟨A385, hA385, ⟨rfl, rfl⟩⟩⟩⟩⟩⟩)⟩⟩), hI, fr_def hA385 (fr.sf (fr.trans (fr_def hA381 (fr.st (fr.trans (fr.trans (fr.rf) hf277 rfl rfl) hf380 rfl rfl) (by decide) rfl)) hf384 rfl rfl) rfl), (CI.fr (CI.fr (CI.fr (CI.fr hc278 hf380 rfl rfl) (fr_def hA381 (fr.st (fr.rf (M := [36]) (N := [])) (by decide) rfl)) rfl rfl) hf384 rfl rfl) (fr_def hA385 (fr.sf (fr.rf (M := []) (N := [57])) rfl)) rfl rfl), ⟨by decide, Hd.mk (fun h0 => ⟨fun _ => ⟨by rw [e_A385_57]; exact RI.op (x := 17) (r37 := A275 37) hj1 hIj (by rw [e_A275_3]; rw [hs3]; decide) (by decide) (hlow.imp id (fun t => by rw [show rk 17 = 4 by decide]; exact t)) (fun _ _ => rfl) (fun h => absurd h (by rw [RI.nn hj1 rfl]; decide)) ⟨ca394, ca398, ca402, ca406, ca410, ca414, (ca390.trans hw379.2), e_A385_46, (e_A385_47.trans e_A275_47.symm), (e_A385_53.trans e_A275_53.symm), (e_A385_54.trans e_A275_54.symm), (e_A385_56.trans hw379.1)⟩ (by rw [← (e_A381_5.trans e_A275_5.symm), e_A385_4]; exact hw383x) (by rw [e_A385_4, e_A385_5]; exact hw383y) (LX.of ca387 e_A385_3 e_A385_4 e_A385_5 e_A385_7 hw383.out.2.2.1), ⟨(PR.fr (PR.fr (PR.fr (PR.fr (PR.fr hp2 hf277 rfl rfl) hf380 rfl rfl) (fr_def hA381 (fr.st (fr.rf (M := [36]) (N := [])) (by decide) rfl)) rfl rfl) hf384 rfl rfl) (fr_def hA385 (fr.sf (fr.rf (M := []) (N := [57])) rfl)) rfl rfl), SP.push (x := 17) (ph := 1) (r36 := up (A275 36) ((A 0 53) - 1).toNat 1) hc279 hIj hj1.2.1 (RI.deep hj1 hIj).1 (ca417.trans e36) (fun i hi => up_lo e_A275_53 hi) (by rw [e_A275_53, up_same]) ca422 (ca390.trans hw379.2) (e_A385_53.trans e_A275_53.symm) (e_A385_56.trans hw379.1) ((hlow.imp id (fun t => by rw [show rk 17 = 4 by decide]; exact t)).imp id Int.le_of_lt) (fun h => absurd h (by decide))⟩, by omega⟩, fun h => absurd h (by decide)⟩)⟩⟩ hP hS (dk_at dkX12_goesOn_8 6 rfl)
set_option maxHeartbeats 4000000 in
set_option maxRecDepth 100000 in
theorem mb_X12_goesOn_c314 (l : Launch) (dC : Nat → ClassId) (dI : Nat → Nat → Nat) (cB cI cJ cZ cQ : ClassId) (q : Nat → Nat) (A : St) (hI : IM A) (hp0 : RI 1 A) (hp1 : A 0 8 = 0) (hp2 : PR A) (hp3 : A 0 57 = 1) (hp4 : SP A) (hcCI : CI A) (p : Program) (e : Env) (s : State) (m : MethodId) (below : List Frame) (meth : Method) (c : Code) (Q : State → Prop) (AS : Nat → Prop) (hx : p.tables.exec = Jvm.exec) (hb : c.code = cX12_goesOn) (hml : c.maxLocals = 5) (hown : s.vm.findClass RX12 = some m.cls) (hts : ∀ w ∈ ws_mb_X12_goesOn, w.before [.ref (q 0)].toArray s = true) (hK : va_K (dC, dI) vwCl (tyA cB cI cJ cZ cQ) s) (hDD : ∀ A', va_D AS (WM cI cJ cZ q A')) (hA0 : ∀ b : Nat, s.heap.size ≤ b → AS b) (RET : ∀ (z : Int) (u : St) (H : Heap) (locs : List Loc) (pc : Nat) (ls : Array Slot), ((fun z u => r_X12_goesOn A z u ∧ IM u ∧ fr [33, 34, 35, 36, 37, 40] [3, 4, 5, 6, 7, 8, 9, 46, 53, 54, 56, 57] A u ∧ CI u ∧ ((0 ≤ z ∧ z ≤ 1) ∧ (Hd (u 0 8 = 0 → (z = 1 → RI (u 0 57) u ∧ (PR u ∧ SP u) ∧ A 0 4 + 1 ≤ u 0 4) ∧ (z = 0 → DP (u 33) (sA u) (1600 * u 0 47 + u 0 46) 1 ∧ CB u ∧ A 0 4 ≤ u 0 4))))) z u) → va_P (dC, dI) vwCl (WM cI cJ cZ q u) H → va_S AS s.heap H locs → decode cX12_goesOn pc = .ok (.ireturn, 1) → W p l e (headSpec ws_mb_X12_goesOn ({ frames := 2, cells := 0, slots := 0, locals := 47 } : Room)).room s m [.ref (q 0)].toArray below meth c H locs 0 0 Q (F0 m pc ls [.int (iI z)])) (H : Heap) (locs : List Loc) (ls : Array Slot) (z1 z2 : Int) (rz1 : (0 : Int) ≤ z1 ∧ z1 ≤ 5) (rz2 : (0 : Int) ≤ z2 ∧ z2 ≤ 1) (hz1 : z1 = A 35 ((A 0 53) - 1).toNat) (hs1 : A 0 3 = 1) (A443 : St) (hIv : IM A443) (hj442 : fr [] [8, 9] A A443) (hk6 : ∀ (z : Int) (u : St), (d_X12_goesOn_6 A z u z1 z2 A443) → r_X12_goesOn A z u) (hP : va_P (dC, dI) vwCl (WM cI cJ cZ q A443) H) (hS : va_S AS s.heap H locs) (hl : lv_has ls 5 [(0, .ref (q 0)), (1, .int (iI ((A 0 53) - 1))), (2, .int (iI z1)), (3, .int (iI z2))]) : W p l e (headSpec ws_mb_X12_goesOn ({ frames := 2, cells := 0, slots := 0, locals := 47 } : Room)).room s m [.ref (q 0)].toArray below meth c H locs 0 0 Q (F0 m 314 ls []) := by
  have hiX12 : ∀ w ∈ u_ws RX12 TX12 85, w ∈ ws_mb_X12_goesOn := fun w h => List.mem_cons_of_mem _ (wx_lay w h)
  have hI0 := hI
  have hdp := RI.deep hp0 hI0
  have hrm := RI.room hp0 hI0
  have r_A_0_3 : (0 : Int) ≤ (A 0 3) ∧ (A 0 3) ≤ 3 := hI 0 3
  have r_A_0_4 : (0 : Int) ≤ (A 0 4) ∧ (A 0 4) ≤ 1600 := hI 0 4
  have r_A_0_5 : (0 : Int) ≤ (A 0 5) ∧ (A 0 5) ≤ 1600 := hI 0 5
  have r_A_0_7 : (-9223372036854775808 : Int) ≤ (A 0 7) ∧ (A 0 7) ≤ 9223372036854775807 := hI 0 7
  have r_A_0_8 : (0 : Int) ≤ (A 0 8) ∧ (A 0 8) ≤ 5 := hI 0 8
  have r_A_0_46 : (0 : Int) ≤ (A 0 46) ∧ (A 0 46) ≤ 1600 := hI 0 46
  have r_A_0_47 : (0 : Int) ≤ (A 0 47) ∧ (A 0 47) ≤ 1 := hI 0 47
  have r_A_0_53 : (0 : Int) ≤ (A 0 53) ∧ (A 0 53) ≤ 20 := hI 0 53
  have r_A_0_54 : (0 : Int) ≤ (A 0 54) ∧ (A 0 54) ≤ 8 := hI 0 54
  have r_A_0_56 : (0 : Int) ≤ (A 0 56) ∧ (A 0 56) ≤ 500 := hI 0 56
  have hop := hp0.1
  have hI := hIv
  refine lv_aload_n hx hb (dk_at dkX12_goesOn_9 11 rfl) rfl (lv_at hl 0 rfl) ?_
  refine va_get (D := (dC, dI)) (ci := 12) (v := .int (iI (A443 0 8))) (C := RX12) (T := TX12) (N := 85) hx hb hts hiX12 hown hK hP 0 wm0 rfl 8 (by decide) (hts _ (List.mem_cons_of_mem _ wlq_0_16)) (fun _ h9 => h9) rfl (dk_at dkX12_goesOn_9 12 rfl) ?_
  have r_A443_0_8 : (0 : Int) ≤ (A443 0 8) ∧ (A443 0 8) ≤ 5 := hI 0 8
  refine lv_if_le (tgt := 323) hx hb (dk_at dkX12_goesOn_9 13 rfl) (by decide) (fun c444 => ?_) (fun c444 => ?_)
  · have c444 : (A443 0 8) ≤ 0 := (i_le0 (rb r_A443_0_8 (by decide) (by decide))).mp c444
    refine lv_aload_n hx hb (dk_at dkX12_goesOn_10 0 rfl) rfl (lv_at hl 0 rfl) ?_
    refine lv_ldc2 (v := 6385252) hx hb hown (hts _ (List.mem_cons_of_mem _ wlq_1_1)) (dk_at dkX12_goesOn_10 1 rfl) ?_
    refine tp_l (y := jI 6385252) (by decide +kernel) ?_
    have e_A443_3 : A443 0 3 = (A 0 3) := (hj442.2 3 rfl)
    have e_A443_7 : A443 0 7 = (A 0 7) := (hj442.2 7 rfl)
    refine x_calli (As := [.long (jI 6385252)]) (rest := []) ⟨hx, hb, hml, hown, hts⟩ (mb_X12_isWord l dC dI cB cI cJ cZ cQ q _ 6385252 hI ⟨by decide, by decide⟩) (cwV 1 hts (goodV wlq_1_59 wlq_2_0 wlq_2_1 wlq_0_8 wlq_0_35) rfl rfl rfl (by decide +kernel) ⟨Nat.le_of_ble_eq_true rfl, Nat.le_of_ble_eq_true rfl⟩) hK hDD hA0 hP hS 0 12 wm0 rfl rfl hl.1 (Nat.le_of_ble_eq_true rfl) (dk_at dkX12_goesOn_10 2 rfl) (fun z445 A446 H locs hw447 hP hS => ?_)
    obtain ⟨rfl, hw447⟩ := hw447
    have ghw447 : q_X12_isWord 6385252 A443 z445 := hw447
    have hw447 := hw447.2
    have rz445 : 0 ≤ z445 ∧ z445 ≤ 1 := hw447.1
    replace hw447 := Hd.mk hw447.2
    refine lv_istore (lv' := [(4, .int (iI z445)), (0, .ref (q 0)), (1, .int (iI ((A 0 53) - 1))), (2, .int (iI z1)), (3, .int (iI z2))]) hx hb (dk_at dkX12_goesOn_10 3 rfl) hl (by decide) rfl (fun ls hl => ?_)
    refine lv_aload_n hx hb (dk_at dkX12_goesOn_10 4 rfl) rfl (lv_at hl 1 rfl) ?_
    refine lv_iload hx hb (dk_at dkX12_goesOn_10 5 rfl) (lv_at hl 0 rfl) ?_
    refine lv_if_eq (tgt := 342) hx hb (dk_at dkX12_goesOn_10 6 rfl) (by decide) (fun c448 => ?_) (fun c448 => ?_)
    · have c448 : z445 = 0 := (i_eq0 (rb rz445 (by decide) (by decide))).mp c448
      refine lv_iconst (v := iI 1) hx hb (dk_at dkX12_goesOn_10 9 rfl) (by decide +kernel) ?_
      refine x_callv (As := [.int (iI 1)]) (rest := []) ⟨hx, hb, hml, hown, hts⟩ (mb_X12_joins l dC dI cB cI cJ cZ cQ q _ 1 hI ⟨by decide, by decide⟩ (by exact (RI1.fr hp0 hj442 rfl rfl)) (CI.fr hcCI hj442 rfl rfl) (SP.fr hp4 hj442 rfl rfl)) (cwV 1 hts (goodV wlq_2_10 wlq_2_11 wlq_2_12 wlq_0_8 wlq_1_34) rfl rfl rfl (by decide +kernel) ⟨Nat.le_of_ble_eq_true rfl, Nat.le_of_ble_eq_true rfl⟩) hK hDD hA0 hP hS 0 12 wm0 rfl rfl hl.1 (Nat.le_of_ble_eq_true rfl) (dk_at dkX12_goesOn_10 10 rfl) (fun A449 H locs hw450 hP hS => ?_)
      have ghw450 : q_X12_joins 1 A443 A449 := hw450
      obtain ⟨_, hI, hf451, hw450⟩ := hw450
      obtain ⟨hc452, hw450⟩ := hw450
      obtain ⟨hc453, hw450⟩ := hw450
      have e_A443_53 : A443 0 53 = (A 0 53) := (hj442.2 53 rfl)
      have e_A449_53 : A449 0 53 = (A 0 53) := (hf451.2 53 rfl).trans e_A443_53
      have r_A449_0_56 : (0 : Int) ≤ (A449 0 56) ∧ (A449 0 56) ≤ 500 := hI 0 56
      have hj1 := hw450.1
      have hj2 := Hd.mk hw450.2
      clear hw450
      have hIj := hI
      have hrj := RI.room hj1 hIj
      have e_A449_3 : A449 0 3 = (A 0 3) := (hf451.2 3 rfl).trans e_A443_3
      have e_A443_4 : A443 0 4 = (A 0 4) := (hj442.2 4 rfl)
      have e_A449_4 : A449 0 4 = (A 0 4) := (hf451.2 4 rfl).trans e_A443_4
      have e_A443_5 : A443 0 5 = (A 0 5) := (hj442.2 5 rfl)
      have e_A449_5 : A449 0 5 = (A 0 5) := (hf451.2 5 rfl).trans e_A443_5
      have e_A449_7 : A449 0 7 = (A 0 7) := (hf451.2 7 rfl).trans e_A443_7
      have e_A449_8 : A449 0 8 = (A443 0 8) := (hf451.2 8 rfl)
      have e_A443_47 : A443 0 47 = (A 0 47) := (hj442.2 47 rfl)
      have e_A449_47 : A449 0 47 = (A 0 47) := (hf451.2 47 rfl).trans e_A443_47
      have e_A443_54 : A443 0 54 = (A 0 54) := (hj442.2 54 rfl)
      have e_A449_54 : A449 0 54 = (A 0 54) := (hf451.2 54 rfl).trans e_A443_54
      have r_A449_0_46 : (0 : Int) ≤ (A449 0 46) ∧ (A449 0 46) ≤ 1600 := hI 0 46
      refine lv_aload_n hx hb (dk_at dkX12_goesOn_10 11 rfl) rfl (lv_at hl 1 rfl) ?_
      refine lv_iload hx hb (dk_at dkX12_goesOn_10 12 rfl) (lv_at hl 0 rfl) ?_
      refine lv_if_eq (tgt := 357) hx hb (dk_at dkX12_goesOn_10 13 rfl) (by decide) (fun _ => ?_) (fun c454 => False.elim (by have c454 : ¬ z445 = 0 := mt (i_eq0 (rb rz445 (by decide) (by decide))).mpr c454; omega))
      refine lv_bipush (v := iI 21) hx hb (dk_at dkX12_goesOn_11 0 rfl) (by decide +kernel) ?_
      refine x_callv (As := [.int (iI 21)]) (rest := []) ⟨hx, hb, hml, hown, hts⟩ (mb_X12_holdsBack l dC dI cB cI cJ cZ cQ q _ 21 hI ⟨by decide, by decide⟩ (by omega)) (cwV 1 hts (goodV wlq_2_2 wlq_2_3 wlq_2_4 wlq_0_8 wlq_1_44) rfl rfl rfl (by decide +kernel) ⟨Nat.le_of_ble_eq_true rfl, Nat.le_of_ble_eq_true rfl⟩) hK hDD hA0 hP hS 0 12 wm0 rfl rfl hl.1 (Nat.le_of_ble_eq_true rfl) (dk_at dkX12_goesOn_11 1 rfl) (fun A455 H locs hw456 hP hS => ?_)
      have ghw456 : q_X12_holdsBack 21 A449 A455 := hw456
      obtain ⟨_, hI, hf457, hw456⟩ := hw456
      have r_A455_0_56 : (0 : Int) ≤ (A455 0 56) ∧ (A455 0 56) ≤ 500 := hI 0 56
      refine lv_aload_n hx hb (dk_at dkX12_goesOn_11 2 rfl) rfl (lv_at hl 1 rfl) ?_
      refine va_get (D := (dC, dI)) (ci := 12) (v := .ref (q 36)) (C := RX12) (T := TX12) (N := 85) hx hb hts hiX12 hown hK hP 0 wm0 rfl 49 (by decide) (hts _ (List.mem_cons_of_mem _ wlq_1_47)) (fun _ h9 => h9) rfl (dk_at dkX12_goesOn_11 3 rfl) ?_
      refine lv_iload_n hx hb (dk_at dkX12_goesOn_11 4 rfl) rfl (lv_at hl 2 rfl) ?_
      refine lv_iconst (v := iI 0) hx hb (dk_at dkX12_goesOn_11 5 rfl) (by decide +kernel) ?_
      refine x_iast hx hb hK hP hDD hS 36 1 wm36 rfl (by omega) (by decide) (dk_at dkX12_goesOn_11 6 rfl) ws36 (fun H locs hP hS => ?_)
      have hI := hI.st (j := 36) (i := ((A 0 53) - 1).toNat) (v := 0) (show (0 : Int) ≤ 0 ∧ 0 ≤ 2 from (by omega))
      refine lv_aload_n hx hb (dk_at dkX12_goesOn_11 7 rfl) rfl (lv_at hl 1 rfl) ?_
      refine va_get (D := (dC, dI)) (ci := 12) (v := .ref (q 37)) (C := RX12) (T := TX12) (N := 85) hx hb hts hiX12 hown hK hP 0 wm0 rfl 50 (by decide) (hts _ (List.mem_cons_of_mem _ wlq_1_48)) (fun _ h9 => h9) rfl (dk_at dkX12_goesOn_11 8 rfl) ?_
      refine lv_iload_n hx hb (dk_at dkX12_goesOn_11 9 rfl) rfl (lv_at hl 2 rfl) ?_
      refine lv_iconst (v := iI 1) hx hb (dk_at dkX12_goesOn_11 10 rfl) (by decide +kernel) ?_
      refine x_zast hx hb hK hP hDD hS 37 3 wm37 rfl (by omega) (by decide) (dk_at dkX12_goesOn_11 11 rfl) (by omega) ws37 (fun H locs hP hS => ?_)
      have hI := hI.st (j := 37) (i := ((A 0 53) - 1).toNat) (v := 1) (show (0 : Int) ≤ 1 ∧ 1 ≤ 1 from (by omega))
      refine lv_aload_n hx hb (dk_at dkX12_goesOn_11 12 rfl) rfl (lv_at hl 1 rfl) ?_
      obtain ⟨A458, hA458⟩ : ∃ A458 : St, A458 = (stA (stA A455 36 ((A 0 53) - 1).toNat 0) 37 ((A 0 53) - 1).toNat 1) := ⟨_, rfl⟩
      rw [← hA458] at hP hI
      have e_A455_4 : A455 0 4 = (A 0 4) := (hf457.2 4 rfl).trans e_A449_4
      have e_A458_4 : A458 0 4 = (A 0 4) := by rw [hA458]; exact e_A455_4
      have e_A455_5 : A455 0 5 = (A 0 5) := (hf457.2 5 rfl).trans e_A449_5
      have e_A458_5 : A458 0 5 = (A 0 5) := by rw [hA458]; exact e_A455_5
      have e_A455_8 : A455 0 8 = (A443 0 8) := (hf457.2 8 rfl).trans e_A449_8
      have e_A458_8 : A458 0 8 = (A443 0 8) := by rw [hA458]; exact e_A455_8
      refine x_callv (As := []) (rest := []) ⟨hx, hb, hml, hown, hts⟩ (mb_X12_ahead l dC dI cB cI cJ cZ cQ q _ hI) (cwV 0 hts (goodV wlq_0_40 wlq_0_41 wlq_0_42 wlq_0_8 wlq_0_20) rfl rfl rfl (by decide +kernel) ⟨Nat.le_of_ble_eq_true rfl, Nat.le_of_ble_eq_true rfl⟩) hK hDD hA0 hP hS 0 12 wm0 rfl rfl hl.1 (Nat.le_of_ble_eq_true rfl) (dk_at dkX12_goesOn_11 13 rfl) (fun A459 H locs hw460 hP hS => ?_)
      have ghw460 : q_X12_ahead A458 A459 := hw460
      obtain ⟨_, hI, hf461, hw460⟩ := hw460
      have r_A459_0_3 : (0 : Int) ≤ (A459 0 3) ∧ (A459 0 3) ≤ 3 := hI 0 3
      have r_A459_0_4 : (0 : Int) ≤ (A459 0 4) ∧ (A459 0 4) ≤ 1600 := hI 0 4
      have r_A459_0_5 : (0 : Int) ≤ (A459 0 5) ∧ (A459 0 5) ≤ 1600 := hI 0 5
      have r_A459_0_8 : (0 : Int) ≤ (A459 0 8) ∧ (A459 0 8) ≤ 5 := hI 0 8
      have hw460x := hw460.1
      have hw460y := hw460.2.1
      replace hw460 := Hd.mk hw460
      refine lv_aload_n hx hb (dk_at dkX12_goesOn_11 14 rfl) rfl (lv_at hl 1 rfl) ?_
      refine lv_iconst (v := iI 0) hx hb (dk_at dkX12_goesOn_11 15 rfl) (by decide +kernel) ?_
      refine x_put (D := (dC, dI)) (ci := 12) (v := .int (iI 0)) (ty := .boolean) (C := RX12) (T := TX12) (N := 85) hx hb hts hiX12 tyX12 tyX12_ok nmX12 hown hK hP hDD hS 0 wm0 rfl 57 (by decide) (hts _ (List.mem_cons_of_mem _ wlq_2_9)) (fun _ h9 => h9) rfl (by decide +kernel) (by decide +kernel) rfl (Nat.le_of_ble_eq_true rfl) (dk_at dkX12_goesOn_12 0 rfl) (wf57 (v := 0)) (fun H locs hP hS => ?_)
      have hI := hI.st (j := 0) (i := 57) (v := 0) (show (0 : Int) ≤ 0 ∧ 0 ≤ 1 from (by omega))
      refine lv_iconst (v := iI 1) hx hb (dk_at dkX12_goesOn_12 1 rfl) (by decide +kernel) ?_
      obtain ⟨A462, hA462⟩ : ∃ A462 : St, A462 = (stA A459 0 57 0) := ⟨_, rfl⟩
      rw [← hA462] at hP hI
      have e_A462_4 : A462 0 4 = (A459 0 4) := by rw [hA462]; exact rfl
      have e_A462_5 : A462 0 5 = (A459 0 5) := by rw [hA462]; exact rfl
      have e_A462_8 : A462 0 8 = (A459 0 8) := by rw [hA462]; exact rfl
      have e_A455_46 : A455 0 46 = (A449 0 46) := (hf457.2 46 rfl)
      have e_A458_46 : A458 0 46 = (A449 0 46) := by rw [hA458]; exact e_A455_46
      have e_A459_46 : A459 0 46 = (A449 0 46) := (hf461.2 46 rfl).trans e_A458_46
      have e_A462_46 : A462 0 46 = (A449 0 46) := by rw [hA462]; exact e_A459_46
      have e_A455_47 : A455 0 47 = (A 0 47) := (hf457.2 47 rfl).trans e_A449_47
      have e_A458_47 : A458 0 47 = (A 0 47) := by rw [hA458]; exact e_A455_47
      have e_A459_47 : A459 0 47 = (A 0 47) := (hf461.2 47 rfl).trans e_A458_47
      have e_A462_47 : A462 0 47 = (A 0 47) := by rw [hA462]; exact e_A459_47
      have e_A462_57 : A462 0 57 = 0 := by rw [hA462]; rfl
      have ca463 : A443 35 = A 35 := (hj442.1 35 (by decide) rfl)
      have ca464 : A449 35 = A 35 := (hf451.1 35 (by decide) rfl).trans ca463
      have ca465 : A462 1 = A459 1 := by rw [hA462]; exact rfl
      have e_A462_3 : A462 0 3 = (A459 0 3) := by rw [hA462]; exact rfl
      have e_A462_7 : A462 0 7 = (A459 0 7) := by rw [hA462]; exact rfl
      have hlt := RI.lt hp0 (by omega)
      have ca466 : A458 40 = A455 40 := by rw [hA458]; exact rfl
      have ca467 : A459 40 = A455 40 := (hf461.1 40 (by decide) rfl).trans ca466
      have ca468 : A462 40 = A455 40 := by rw [hA462]; exact ca467
      have ca469 : A455 37 = A449 37 := (hf457.1 37 (by decide) rfl)
      have e37 : A458 37 = up (A449 37) ((A 0 53) - 1).toNat 1 := by rw [hA458]; show up (A455 37) _ _ = _; rw [ca469]
      have ca470 : A459 37 = A458 37 := (hf461.1 37 (by decide) rfl)
      have ca471 : A462 37 = A458 37 := by rw [hA462]; exact ca470
      have e_A458_56 : A458 0 56 = (A455 0 56) := by rw [hA458]; exact rfl
      have e_A459_56 : A459 0 56 = (A455 0 56) := (hf461.2 56 rfl).trans e_A458_56
      have e_A462_56 : A462 0 56 = (A455 0 56) := by rw [hA462]; exact e_A459_56
      have ca472 : A455 29 = A449 29 := (hf457.1 29 (by decide) rfl)
      have ca473 : A458 29 = A449 29 := by rw [hA458]; exact ca472
      have ca474 : A459 29 = A449 29 := (hf461.1 29 (by decide) rfl).trans ca473
      have ca475 : A462 29 = A449 29 := by rw [hA462]; exact ca474
      have ca476 : A455 31 = A449 31 := (hf457.1 31 (by decide) rfl)
      have ca477 : A458 31 = A449 31 := by rw [hA458]; exact ca476
      have ca478 : A459 31 = A449 31 := (hf461.1 31 (by decide) rfl).trans ca477
      have ca479 : A462 31 = A449 31 := by rw [hA462]; exact ca478
      have ca480 : A455 33 = A449 33 := (hf457.1 33 (by decide) rfl)
      have ca481 : A458 33 = A449 33 := by rw [hA458]; exact ca480
      have ca482 : A459 33 = A449 33 := (hf461.1 33 (by decide) rfl).trans ca481
      have ca483 : A462 33 = A449 33 := by rw [hA462]; exact ca482
      have ca484 : A455 35 = A449 35 := (hf457.1 35 (by decide) rfl)
      have ca485 : A458 35 = A449 35 := by rw [hA458]; exact ca484
      have ca486 : A459 35 = A449 35 := (hf461.1 35 (by decide) rfl).trans ca485
      have ca487 : A462 35 = A449 35 := by rw [hA462]; exact ca486
      have ca488 : A455 39 = A449 39 := (hf457.1 39 (by decide) rfl)
      have ca489 : A458 39 = A449 39 := by rw [hA458]; exact ca488
      have ca490 : A459 39 = A449 39 := (hf461.1 39 (by decide) rfl).trans ca489
      have ca491 : A462 39 = A449 39 := by rw [hA462]; exact ca490
      have e_A455_53 : A455 0 53 = (A 0 53) := (hf457.2 53 rfl).trans e_A449_53
      have e_A458_53 : A458 0 53 = (A 0 53) := by rw [hA458]; exact e_A455_53
      have e_A459_53 : A459 0 53 = (A 0 53) := (hf461.2 53 rfl).trans e_A458_53
      have e_A462_53 : A462 0 53 = (A 0 53) := by rw [hA462]; exact e_A459_53
      have e_A455_54 : A455 0 54 = (A 0 54) := (hf457.2 54 rfl).trans e_A449_54
      have e_A458_54 : A458 0 54 = (A 0 54) := by rw [hA458]; exact e_A455_54
      have e_A459_54 : A459 0 54 = (A 0 54) := (hf461.2 54 rfl).trans e_A458_54
      have e_A462_54 : A462 0 54 = (A 0 54) := by rw [hA462]; exact e_A459_54
      have ca492 : A455 36 = A449 36 := (hf457.1 36 (by decide) rfl)
      have e36 : A458 36 = up (A449 36) ((A 0 53) - 1).toNat 0 := by rw [hA458]; show up (A455 36) _ _ = _; rw [ca492]
      have ca493 : A459 36 = A458 36 := (hf461.1 36 (by decide) rfl)
      have ca494 : A462 36 = A458 36 := by rw [hA462]; exact ca493
      have ca495 : A455 39 = A449 39 := (hf457.1 39 (by decide) rfl)
      have ca496 : A458 39 = A449 39 := by rw [hA458]; exact ca495
      have ca497 : A459 39 = A449 39 := (hf461.1 39 (by decide) rfl).trans ca496
      have ca498 : A462 39 = A449 39 := by rw [hA462]; exact ca497
      exact RET 1 _ _ _ _ _ ⟨hk6 _ _ (u_d_X12_goesOn_6 ⟨hIv, (Or.inl ⟨c444, ⟨z445, ghw447, (Or.inl ⟨c448, ⟨A449, ghw450, ⟨A455, ghw456, ⟨A458, hA458, ⟨A459, ghw460, ⟨A462, hA462, ⟨rfl, rfl⟩⟩⟩⟩⟩⟩⟩)⟩⟩)⟩), hI, fr_def hA462 (fr.sf (fr.trans (fr_def hA458 (fr.st (fr.st (fr.trans (fr.trans (fr.trans (fr.rf) hj442 rfl rfl) hf451 rfl rfl) hf457 rfl rfl) (by decide) rfl) (by decide) rfl)) hf461 rfl rfl) rfl), (CI.fr (CI.fr (CI.fr (CI.fr hc452 hf457 rfl rfl) (fr_def hA458 (fr.st (fr.st (fr.rf (M := [36, 37]) (N := [])) (by decide) rfl) (by decide) rfl)) rfl rfl) hf461 rfl rfl) (fr_def hA462 (fr.sf (fr.rf (M := []) (N := [57])) rfl)) rfl rfl), ⟨by decide, Hd.mk (fun h0 => ⟨fun _ => ⟨by rw [e_A462_57]; exact RI.op (x := 21) (r37 := up (A449 37) ((A 0 53) - 1).toNat 1) hj1 hIj (by rw [e_A449_3]; rw [hs1]; decide) (by decide) (hj2.out.imp id (fun t => by rw [show rk 21 = 1 by decide]; exact t)) (fun i hi => up_lo e_A449_53 hi) (fun _ => by decide) ⟨ca475, ca479, ca483, ca487, (ca471.trans e37), ca491, (ca468.trans hw456.2), e_A462_46, (e_A462_47.trans e_A449_47.symm), (e_A462_53.trans e_A449_53.symm), (e_A462_54.trans e_A449_54.symm), (e_A462_56.trans hw456.1)⟩ (by rw [← (e_A458_5.trans e_A449_5.symm), e_A462_4]; exact hw460x) (by rw [e_A462_4, e_A462_5]; exact hw460y) (LX.of ca465 e_A462_3 e_A462_4 e_A462_5 e_A462_7 hw460.out.2.2.1), ⟨(PR.fr (PR.fr (PR.fr (PR.fr (PR.fr (PR.fr hp2 hj442 rfl rfl) hf451 rfl rfl) hf457 rfl rfl) (fr_def hA458 (fr.st (fr.st (fr.rf (M := [36, 37]) (N := [])) (by decide) rfl) (by decide) rfl)) rfl rfl) hf461 rfl rfl) (fr_def hA462 (fr.sf (fr.rf (M := []) (N := [57])) rfl)) rfl rfl), SP.push (x := 21) (ph := 0) (r36 := up (A449 36) ((A 0 53) - 1).toNat 0) hc453 hIj hj1.2.1 (RI.deep hj1 hIj).1 (ca494.trans e36) (fun i hi => up_lo e_A449_53 hi) (by rw [e_A449_53, up_same]) ca498 (ca468.trans hw456.2) (e_A462_53.trans e_A449_53.symm) (e_A462_56.trans hw456.1) ((hj2.out.imp id (fun t => by rw [show rk 21 = 1 by decide]; exact t)).imp id Int.le_of_lt) (fun _ => ⟨by decide, Or.inr (by decide)⟩)⟩, by omega⟩, fun h => absurd h (by decide)⟩)⟩⟩ hP hS (dk_at dkX12_goesOn_12 2 rfl)
    · have c448 : ¬ z445 = 0 := mt (i_eq0 (rb rz445 (by decide) (by decide))).mpr c448
      have hw447b := hw447.out.mp (by omega)
      refine lv_iconst (v := iI 2) hx hb (dk_at dkX12_goesOn_10 7 rfl) (by decide +kernel) ?_
      refine lv_goto (tgt := 343) hx hb (dk_at dkX12_goesOn_10 8 rfl) (by decide) ?_
      refine x_callv (As := [.int (iI 2)]) (rest := []) ⟨hx, hb, hml, hown, hts⟩ (mb_X12_joins l dC dI cB cI cJ cZ cQ q _ 2 hI ⟨by decide, by decide⟩ (by exact (RI1.fr hp0 hj442 rfl rfl)) (CI.fr hcCI hj442 rfl rfl) (SP.fr hp4 hj442 rfl rfl)) (cwV 1 hts (goodV wlq_2_10 wlq_2_11 wlq_2_12 wlq_0_8 wlq_1_34) rfl rfl rfl (by decide +kernel) ⟨Nat.le_of_ble_eq_true rfl, Nat.le_of_ble_eq_true rfl⟩) hK hDD hA0 hP hS 0 12 wm0 rfl rfl hl.1 (Nat.le_of_ble_eq_true rfl) (dk_at dkX12_goesOn_10 10 rfl) (fun A499 H locs hw500 hP hS => ?_)
      have ghw500 : q_X12_joins 2 A443 A499 := hw500
      obtain ⟨_, hI, hf501, hw500⟩ := hw500
      obtain ⟨hc502, hw500⟩ := hw500
      obtain ⟨hc503, hw500⟩ := hw500
      have e_A443_53 : A443 0 53 = (A 0 53) := (hj442.2 53 rfl)
      have e_A499_53 : A499 0 53 = (A 0 53) := (hf501.2 53 rfl).trans e_A443_53
      have r_A499_0_56 : (0 : Int) ≤ (A499 0 56) ∧ (A499 0 56) ≤ 500 := hI 0 56
      have hj1 := hw500.1
      have hj2 := Hd.mk hw500.2
      clear hw500
      have hIj := hI
      have hrj := RI.room hj1 hIj
      have e_A499_3 : A499 0 3 = (A 0 3) := (hf501.2 3 rfl).trans e_A443_3
      have e_A443_4 : A443 0 4 = (A 0 4) := (hj442.2 4 rfl)
      have e_A499_4 : A499 0 4 = (A 0 4) := (hf501.2 4 rfl).trans e_A443_4
      have e_A443_5 : A443 0 5 = (A 0 5) := (hj442.2 5 rfl)
      have e_A499_5 : A499 0 5 = (A 0 5) := (hf501.2 5 rfl).trans e_A443_5
      have e_A499_7 : A499 0 7 = (A 0 7) := (hf501.2 7 rfl).trans e_A443_7
      have e_A499_8 : A499 0 8 = (A443 0 8) := (hf501.2 8 rfl)
      have e_A443_47 : A443 0 47 = (A 0 47) := (hj442.2 47 rfl)
      have e_A499_47 : A499 0 47 = (A 0 47) := (hf501.2 47 rfl).trans e_A443_47
      have e_A443_54 : A443 0 54 = (A 0 54) := (hj442.2 54 rfl)
      have e_A499_54 : A499 0 54 = (A 0 54) := (hf501.2 54 rfl).trans e_A443_54
      have r_A499_0_46 : (0 : Int) ≤ (A499 0 46) ∧ (A499 0 46) ≤ 1600 := hI 0 46
      refine lv_aload_n hx hb (dk_at dkX12_goesOn_10 11 rfl) rfl (lv_at hl 1 rfl) ?_
      refine lv_iload hx hb (dk_at dkX12_goesOn_10 12 rfl) (lv_at hl 0 rfl) ?_
      refine lv_if_eq (tgt := 357) hx hb (dk_at dkX12_goesOn_10 13 rfl) (by decide) (fun c504 => False.elim (by have c504 : z445 = 0 := (i_eq0 (rb rz445 (by decide) (by decide))).mp c504; omega)) (fun _ => ?_)
      refine lv_bipush (v := iI 20) hx hb (dk_at dkX12_goesOn_10 14 rfl) (by decide +kernel) ?_
      refine lv_goto (tgt := 359) hx hb (dk_at dkX12_goesOn_10 15 rfl) (by decide) ?_
      refine x_callv (As := [.int (iI 20)]) (rest := []) ⟨hx, hb, hml, hown, hts⟩ (mb_X12_holdsBack l dC dI cB cI cJ cZ cQ q _ 20 hI ⟨by decide, by decide⟩ (by omega)) (cwV 1 hts (goodV wlq_2_2 wlq_2_3 wlq_2_4 wlq_0_8 wlq_1_44) rfl rfl rfl (by decide +kernel) ⟨Nat.le_of_ble_eq_true rfl, Nat.le_of_ble_eq_true rfl⟩) hK hDD hA0 hP hS 0 12 wm0 rfl rfl hl.1 (Nat.le_of_ble_eq_true rfl) (dk_at dkX12_goesOn_11 1 rfl) (fun A505 H locs hw506 hP hS => ?_)
      have ghw506 : q_X12_holdsBack 20 A499 A505 := hw506
      obtain ⟨_, hI, hf507, hw506⟩ := hw506
      have r_A505_0_56 : (0 : Int) ≤ (A505 0 56) ∧ (A505 0 56) ≤ 500 := hI 0 56
      refine lv_aload_n hx hb (dk_at dkX12_goesOn_11 2 rfl) rfl (lv_at hl 1 rfl) ?_
      refine va_get (D := (dC, dI)) (ci := 12) (v := .ref (q 36)) (C := RX12) (T := TX12) (N := 85) hx hb hts hiX12 hown hK hP 0 wm0 rfl 49 (by decide) (hts _ (List.mem_cons_of_mem _ wlq_1_47)) (fun _ h9 => h9) rfl (dk_at dkX12_goesOn_11 3 rfl) ?_
      refine lv_iload_n hx hb (dk_at dkX12_goesOn_11 4 rfl) rfl (lv_at hl 2 rfl) ?_
      refine lv_iconst (v := iI 0) hx hb (dk_at dkX12_goesOn_11 5 rfl) (by decide +kernel) ?_
      refine x_iast hx hb hK hP hDD hS 36 1 wm36 rfl (by omega) (by decide) (dk_at dkX12_goesOn_11 6 rfl) ws36 (fun H locs hP hS => ?_)
      have hI := hI.st (j := 36) (i := ((A 0 53) - 1).toNat) (v := 0) (show (0 : Int) ≤ 0 ∧ 0 ≤ 2 from (by omega))
      refine lv_aload_n hx hb (dk_at dkX12_goesOn_11 7 rfl) rfl (lv_at hl 1 rfl) ?_
      refine va_get (D := (dC, dI)) (ci := 12) (v := .ref (q 37)) (C := RX12) (T := TX12) (N := 85) hx hb hts hiX12 hown hK hP 0 wm0 rfl 50 (by decide) (hts _ (List.mem_cons_of_mem _ wlq_1_48)) (fun _ h9 => h9) rfl (dk_at dkX12_goesOn_11 8 rfl) ?_
      refine lv_iload_n hx hb (dk_at dkX12_goesOn_11 9 rfl) rfl (lv_at hl 2 rfl) ?_
      refine lv_iconst (v := iI 1) hx hb (dk_at dkX12_goesOn_11 10 rfl) (by decide +kernel) ?_
      refine x_zast hx hb hK hP hDD hS 37 3 wm37 rfl (by omega) (by decide) (dk_at dkX12_goesOn_11 11 rfl) (by omega) ws37 (fun H locs hP hS => ?_)
      have hI := hI.st (j := 37) (i := ((A 0 53) - 1).toNat) (v := 1) (show (0 : Int) ≤ 1 ∧ 1 ≤ 1 from (by omega))
      refine lv_aload_n hx hb (dk_at dkX12_goesOn_11 12 rfl) rfl (lv_at hl 1 rfl) ?_
      obtain ⟨A508, hA508⟩ : ∃ A508 : St, A508 = (stA (stA A505 36 ((A 0 53) - 1).toNat 0) 37 ((A 0 53) - 1).toNat 1) := ⟨_, rfl⟩
      rw [← hA508] at hP hI
      have e_A505_4 : A505 0 4 = (A 0 4) := (hf507.2 4 rfl).trans e_A499_4
      have e_A508_4 : A508 0 4 = (A 0 4) := by rw [hA508]; exact e_A505_4
      have e_A505_5 : A505 0 5 = (A 0 5) := (hf507.2 5 rfl).trans e_A499_5
      have e_A508_5 : A508 0 5 = (A 0 5) := by rw [hA508]; exact e_A505_5
      have e_A505_8 : A505 0 8 = (A443 0 8) := (hf507.2 8 rfl).trans e_A499_8
      have e_A508_8 : A508 0 8 = (A443 0 8) := by rw [hA508]; exact e_A505_8
      refine x_callv (As := []) (rest := []) ⟨hx, hb, hml, hown, hts⟩ (mb_X12_ahead l dC dI cB cI cJ cZ cQ q _ hI) (cwV 0 hts (goodV wlq_0_40 wlq_0_41 wlq_0_42 wlq_0_8 wlq_0_20) rfl rfl rfl (by decide +kernel) ⟨Nat.le_of_ble_eq_true rfl, Nat.le_of_ble_eq_true rfl⟩) hK hDD hA0 hP hS 0 12 wm0 rfl rfl hl.1 (Nat.le_of_ble_eq_true rfl) (dk_at dkX12_goesOn_11 13 rfl) (fun A509 H locs hw510 hP hS => ?_)
      have ghw510 : q_X12_ahead A508 A509 := hw510
      obtain ⟨_, hI, hf511, hw510⟩ := hw510
      have r_A509_0_3 : (0 : Int) ≤ (A509 0 3) ∧ (A509 0 3) ≤ 3 := hI 0 3
      have r_A509_0_4 : (0 : Int) ≤ (A509 0 4) ∧ (A509 0 4) ≤ 1600 := hI 0 4
      have r_A509_0_5 : (0 : Int) ≤ (A509 0 5) ∧ (A509 0 5) ≤ 1600 := hI 0 5
      have r_A509_0_8 : (0 : Int) ≤ (A509 0 8) ∧ (A509 0 8) ≤ 5 := hI 0 8
      have hw510x := hw510.1
      have hw510y := hw510.2.1
      replace hw510 := Hd.mk hw510
      refine lv_aload_n hx hb (dk_at dkX12_goesOn_11 14 rfl) rfl (lv_at hl 1 rfl) ?_
      refine lv_iconst (v := iI 0) hx hb (dk_at dkX12_goesOn_11 15 rfl) (by decide +kernel) ?_
      refine x_put (D := (dC, dI)) (ci := 12) (v := .int (iI 0)) (ty := .boolean) (C := RX12) (T := TX12) (N := 85) hx hb hts hiX12 tyX12 tyX12_ok nmX12 hown hK hP hDD hS 0 wm0 rfl 57 (by decide) (hts _ (List.mem_cons_of_mem _ wlq_2_9)) (fun _ h9 => h9) rfl (by decide +kernel) (by decide +kernel) rfl (Nat.le_of_ble_eq_true rfl) (dk_at dkX12_goesOn_12 0 rfl) (wf57 (v := 0)) (fun H locs hP hS => ?_)
      have hI := hI.st (j := 0) (i := 57) (v := 0) (show (0 : Int) ≤ 0 ∧ 0 ≤ 1 from (by omega))
      refine lv_iconst (v := iI 1) hx hb (dk_at dkX12_goesOn_12 1 rfl) (by decide +kernel) ?_
      obtain ⟨A512, hA512⟩ : ∃ A512 : St, A512 = (stA A509 0 57 0) := ⟨_, rfl⟩
      rw [← hA512] at hP hI
      have e_A512_4 : A512 0 4 = (A509 0 4) := by rw [hA512]; exact rfl
      have e_A512_5 : A512 0 5 = (A509 0 5) := by rw [hA512]; exact rfl
      have e_A512_8 : A512 0 8 = (A509 0 8) := by rw [hA512]; exact rfl
      have e_A505_46 : A505 0 46 = (A499 0 46) := (hf507.2 46 rfl)
      have e_A508_46 : A508 0 46 = (A499 0 46) := by rw [hA508]; exact e_A505_46
      have e_A509_46 : A509 0 46 = (A499 0 46) := (hf511.2 46 rfl).trans e_A508_46
      have e_A512_46 : A512 0 46 = (A499 0 46) := by rw [hA512]; exact e_A509_46
      have e_A505_47 : A505 0 47 = (A 0 47) := (hf507.2 47 rfl).trans e_A499_47
      have e_A508_47 : A508 0 47 = (A 0 47) := by rw [hA508]; exact e_A505_47
      have e_A509_47 : A509 0 47 = (A 0 47) := (hf511.2 47 rfl).trans e_A508_47
      have e_A512_47 : A512 0 47 = (A 0 47) := by rw [hA512]; exact e_A509_47
      have e_A512_57 : A512 0 57 = 0 := by rw [hA512]; rfl
      have ca513 : A443 35 = A 35 := (hj442.1 35 (by decide) rfl)
      have ca514 : A499 35 = A 35 := (hf501.1 35 (by decide) rfl).trans ca513
      have ca515 : A512 1 = A509 1 := by rw [hA512]; exact rfl
      have e_A512_3 : A512 0 3 = (A509 0 3) := by rw [hA512]; exact rfl
      have e_A512_7 : A512 0 7 = (A509 0 7) := by rw [hA512]; exact rfl
      have hlt := RI.lt hp0 (by omega)
      have ca516 : A508 40 = A505 40 := by rw [hA508]; exact rfl
      have ca517 : A509 40 = A505 40 := (hf511.1 40 (by decide) rfl).trans ca516
      have ca518 : A512 40 = A505 40 := by rw [hA512]; exact ca517
      have ca519 : A505 37 = A499 37 := (hf507.1 37 (by decide) rfl)
      have e37 : A508 37 = up (A499 37) ((A 0 53) - 1).toNat 1 := by rw [hA508]; show up (A505 37) _ _ = _; rw [ca519]
      have ca520 : A509 37 = A508 37 := (hf511.1 37 (by decide) rfl)
      have ca521 : A512 37 = A508 37 := by rw [hA512]; exact ca520
      have e_A508_56 : A508 0 56 = (A505 0 56) := by rw [hA508]; exact rfl
      have e_A509_56 : A509 0 56 = (A505 0 56) := (hf511.2 56 rfl).trans e_A508_56
      have e_A512_56 : A512 0 56 = (A505 0 56) := by rw [hA512]; exact e_A509_56
      have ca522 : A505 29 = A499 29 := (hf507.1 29 (by decide) rfl)
      have ca523 : A508 29 = A499 29 := by rw [hA508]; exact ca522
      have ca524 : A509 29 = A499 29 := (hf511.1 29 (by decide) rfl).trans ca523
      have ca525 : A512 29 = A499 29 := by rw [hA512]; exact ca524
      have ca526 : A505 31 = A499 31 := (hf507.1 31 (by decide) rfl)
      have ca527 : A508 31 = A499 31 := by rw [hA508]; exact ca526
      have ca528 : A509 31 = A499 31 := (hf511.1 31 (by decide) rfl).trans ca527
      have ca529 : A512 31 = A499 31 := by rw [hA512]; exact ca528
      have ca530 : A505 33 = A499 33 := (hf507.1 33 (by decide) rfl)
      have ca531 : A508 33 = A499 33 := by rw [hA508]; exact ca530
      have ca532 : A509 33 = A499 33 := (hf511.1 33 (by decide) rfl).trans ca531
      have ca533 : A512 33 = A499 33 := by rw [hA512]; exact ca532
      have ca534 : A505 35 = A499 35 := (hf507.1 35 (by decide) rfl)
      have ca535 : A508 35 = A499 35 := by rw [hA508]; exact ca534
      have ca536 : A509 35 = A499 35 := (hf511.1 35 (by decide) rfl).trans ca535
      have ca537 : A512 35 = A499 35 := by rw [hA512]; exact ca536
      have ca538 : A505 39 = A499 39 := (hf507.1 39 (by decide) rfl)
      have ca539 : A508 39 = A499 39 := by rw [hA508]; exact ca538
      have ca540 : A509 39 = A499 39 := (hf511.1 39 (by decide) rfl).trans ca539
      have ca541 : A512 39 = A499 39 := by rw [hA512]; exact ca540
      have e_A505_53 : A505 0 53 = (A 0 53) := (hf507.2 53 rfl).trans e_A499_53
      have e_A508_53 : A508 0 53 = (A 0 53) := by rw [hA508]; exact e_A505_53
      have e_A509_53 : A509 0 53 = (A 0 53) := (hf511.2 53 rfl).trans e_A508_53
      have e_A512_53 : A512 0 53 = (A 0 53) := by rw [hA512]; exact e_A509_53
      have e_A505_54 : A505 0 54 = (A 0 54) := (hf507.2 54 rfl).trans e_A499_54
      have e_A508_54 : A508 0 54 = (A 0 54) := by rw [hA508]; exact e_A505_54
      have e_A509_54 : A509 0 54 = (A 0 54) := (hf511.2 54 rfl).trans e_A508_54
      have e_A512_54 : A512 0 54 = (A 0 54) := by rw [hA512]; exact e_A509_54
      have ca542 : A505 36 = A499 36 := (hf507.1 36 (by decide) rfl)
      have e36 : A508 36 = up (A499 36) ((A 0 53) - 1).toNat 0 := by rw [hA508]; show up (A505 36) _ _ = _; rw [ca542]
      have ca543 : A509 36 = A508 36 := (hf511.1 36 (by decide) rfl)
      have ca544 : A512 36 = A508 36 := by rw [hA512]; exact ca543
      have ca545 : A505 39 = A499 39 := (hf507.1 39 (by decide) rfl)
      have ca546 : A508 39 = A499 39 := by rw [hA508]; exact ca545
      have ca547 : A509 39 = A499 39 := (hf511.1 39 (by decide) rfl).trans ca546
      have ca548 : A512 39 = A499 39 := by rw [hA512]; exact ca547
      exact RET 1 _ _ _ _ _ ⟨hk6 _ _ (u_d_X12_goesOn_6 ⟨hIv, (Or.inl ⟨c444, ⟨z445, ghw447, (Or.inr ⟨c448, ⟨A499, ghw500, ⟨A505, ghw506, ⟨A508, hA508, ⟨A509, ghw510, ⟨A512, hA512, ⟨rfl, rfl⟩⟩⟩⟩⟩⟩⟩)⟩⟩)⟩), hI, fr_def hA512 (fr.sf (fr.trans (fr_def hA508 (fr.st (fr.st (fr.trans (fr.trans (fr.trans (fr.rf) hj442 rfl rfl) hf501 rfl rfl) hf507 rfl rfl) (by decide) rfl) (by decide) rfl)) hf511 rfl rfl) rfl), (CI.fr (CI.fr (CI.fr (CI.fr hc502 hf507 rfl rfl) (fr_def hA508 (fr.st (fr.st (fr.rf (M := [36, 37]) (N := [])) (by decide) rfl) (by decide) rfl)) rfl rfl) hf511 rfl rfl) (fr_def hA512 (fr.sf (fr.rf (M := []) (N := [57])) rfl)) rfl rfl), ⟨by decide, Hd.mk (fun h0 => ⟨fun _ => ⟨by rw [e_A512_57]; exact RI.op (x := 20) (r37 := up (A499 37) ((A 0 53) - 1).toNat 1) hj1 hIj (by rw [e_A499_3]; rw [hs1]; decide) (by decide) (hj2.out.imp id (fun t => by rw [show rk 20 = 2 by decide]; exact t)) (fun i hi => up_lo e_A499_53 hi) (fun _ => by decide) ⟨ca525, ca529, ca533, ca537, (ca521.trans e37), ca541, (ca518.trans hw506.2), e_A512_46, (e_A512_47.trans e_A499_47.symm), (e_A512_53.trans e_A499_53.symm), (e_A512_54.trans e_A499_54.symm), (e_A512_56.trans hw506.1)⟩ (by rw [← (e_A508_5.trans e_A499_5.symm), e_A512_4]; exact hw510x) (by rw [e_A512_4, e_A512_5]; exact hw510y) (LX.of ca515 e_A512_3 e_A512_4 e_A512_5 e_A512_7 hw510.out.2.2.1), ⟨(PR.fr (PR.fr (PR.fr (PR.fr (PR.fr (PR.fr hp2 hj442 rfl rfl) hf501 rfl rfl) hf507 rfl rfl) (fr_def hA508 (fr.st (fr.st (fr.rf (M := [36, 37]) (N := [])) (by decide) rfl) (by decide) rfl)) rfl rfl) hf511 rfl rfl) (fr_def hA512 (fr.sf (fr.rf (M := []) (N := [57])) rfl)) rfl rfl), SP.push (x := 20) (ph := 0) (r36 := up (A499 36) ((A 0 53) - 1).toNat 0) hc503 hIj hj1.2.1 (RI.deep hj1 hIj).1 (ca544.trans e36) (fun i hi => up_lo e_A499_53 hi) (by rw [e_A499_53, up_same]) ca548 (ca518.trans hw506.2) (e_A512_53.trans e_A499_53.symm) (e_A512_56.trans hw506.1) ((hj2.out.imp id (fun t => by rw [show rk 20 = 2 by decide]; exact t)).imp id Int.le_of_lt) (fun _ => ⟨by decide, Or.inr (by decide)⟩)⟩, by omega⟩, fun h => absurd h (by decide)⟩)⟩⟩ hP hS (dk_at dkX12_goesOn_12 2 rfl)
  · have c444 : ¬ (A443 0 8) ≤ 0 := mt (i_le0 (rb r_A443_0_8 (by decide) (by decide))).mpr c444
    refine lv_iconst (v := iI 0) hx hb (dk_at dkX12_goesOn_9 14 rfl) (by decide +kernel) ?_
    have e_A443_4 : A443 0 4 = (A 0 4) := (hj442.2 4 rfl)
    have e_A443_5 : A443 0 5 = (A 0 5) := (hj442.2 5 rfl)
    have e_A443_46 : A443 0 46 = (A 0 46) := (hj442.2 46 rfl)
    have e_A443_47 : A443 0 47 = (A 0 47) := (hj442.2 47 rfl)
    have e_A443_57 : A443 0 57 = (A 0 57) := (hj442.2 57 rfl)
    have r_A_0_57 : (0 : Int) ≤ (A 0 57) ∧ (A 0 57) ≤ 1 := by rw [← e_A443_57]; exact hI 0 57
    exact RET 0 _ _ _ _ _ ⟨hk6 _ _ (u_d_X12_goesOn_6 ⟨hIv, (Or.inr ⟨c444, ⟨rfl, rfl⟩⟩)⟩), hI, fr.trans (fr.rf) hj442 rfl rfl, (CI.fr hcCI hj442 rfl rfl), ⟨by decide, Hd.mk (fun h => absurd h (by omega))⟩⟩ hP hS (dk_at dkX12_goesOn_9 15 rfl)
