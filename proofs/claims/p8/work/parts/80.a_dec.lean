theorem dX12_barring_0 : decode cX12_barring 0 = .ok (.aload_n 0, 1) := by decide +kernel
theorem dX12_barring_1 : decode cX12_barring 1 = .ok (.aload_n 0, 1) := by decide +kernel
theorem dX12_barring_2 : decode cX12_barring 2 = .ok (.getfield 134, 3) := by decide +kernel
theorem dX12_barring_5 : decode cX12_barring 5 = .ok (.aload_n 0, 1) := by decide +kernel
theorem dX12_barring_6 : decode cX12_barring 6 = .ok (.getfield 155, 3) := by decide +kernel
theorem dX12_barring_9 : decode cX12_barring 9 = .ok (.iaload, 1) := by decide +kernel
theorem dX12_barring_10 : decode cX12_barring 10 = .ok (.bipush 6, 2) := by decide +kernel
theorem dX12_barring_12 : decode cX12_barring 12 = .ok (.if_icmp .ne 7, 3) := by decide +kernel
theorem dX12_barring_15 : decode cX12_barring 15 = .ok (.iconst 1, 1) := by decide +kernel
theorem dX12_barring_16 : decode cX12_barring 16 = .ok (.goto 4, 3) := by decide +kernel
theorem dX12_barring_19 : decode cX12_barring 19 = .ok (.iconst 0, 1) := by decide +kernel
theorem dX12_barring_20 : decode cX12_barring 20 = .ok (.invokevirtual 394, 3) := by decide +kernel
theorem dX12_barring_23 : decode cX12_barring 23 = .ok (.ifCond .ne 4, 3) := by decide +kernel
theorem dX12_barring_26 : decode cX12_barring 26 = .ok (.return_, 1) := by decide +kernel
theorem dX12_barring_27 : decode cX12_barring 27 = .ok (.bipush 6, 2) := by decide +kernel
theorem dX12_barring_29 : decode cX12_barring 29 = .ok (.aload_n 0, 1) := by decide +kernel
theorem dX12_barring_30 : decode cX12_barring 30 = .ok (.getfield 155, 3) := by decide +kernel
theorem dX12_barring_33 : decode cX12_barring 33 = .ok (.imul, 1) := by decide +kernel
theorem dX12_barring_34 : decode cX12_barring 34 = .ok (.aload_n 0, 1) := by decide +kernel
theorem dX12_barring_35 : decode cX12_barring 35 = .ok (.getfield 134, 3) := by decide +kernel
theorem dX12_barring_38 : decode cX12_barring 38 = .ok (.aload_n 0, 1) := by decide +kernel
theorem dX12_barring_39 : decode cX12_barring 39 = .ok (.getfield 155, 3) := by decide +kernel
theorem dX12_barring_42 : decode cX12_barring 42 = .ok (.iaload, 1) := by decide +kernel
theorem dX12_barring_43 : decode cX12_barring 43 = .ok (.iadd, 1) := by decide +kernel
theorem dX12_barring_44 : decode cX12_barring 44 = .ok (.istore_n 1, 1) := by decide +kernel
theorem dX12_barring_45 : decode cX12_barring 45 = .ok (.aload_n 0, 1) := by decide +kernel
theorem dX12_barring_46 : decode cX12_barring 46 = .ok (.getfield 36, 3) := by decide +kernel
theorem dX12_barring_49 : decode cX12_barring 49 = .ok (.ifCond .ne 34, 3) := by decide +kernel
theorem dX12_barring_52 : decode cX12_barring 52 = .ok (.aload_n 0, 1) := by decide +kernel
theorem dX12_barring_53 : decode cX12_barring 53 = .ok (.getfield 20, 3) := by decide +kernel
theorem dX12_barring_56 : decode cX12_barring 56 = .ok (.iconst 1, 1) := by decide +kernel
theorem dX12_barring_57 : decode cX12_barring 57 = .ok (.if_icmp .ne 26, 3) := by decide +kernel
theorem dX12_barring_60 : decode cX12_barring 60 = .ok (.aload_n 0, 1) := by decide +kernel
theorem dX12_barring_61 : decode cX12_barring 61 = .ok (.aload_n 0, 1) := by decide +kernel
theorem dX12_barring_62 : decode cX12_barring 62 = .ok (.getfield 32, 3) := by decide +kernel
theorem dX12_barring_65 : decode cX12_barring 65 = .ok (.invokevirtual 387, 3) := by decide +kernel
theorem dX12_barring_68 : decode cX12_barring 68 = .ok (.ifCond .ne 15, 3) := by decide +kernel
theorem dX12_barring_71 : decode cX12_barring 71 = .ok (.aload_n 0, 1) := by decide +kernel
theorem dX12_barring_72 : decode cX12_barring 72 = .ok (.iconst 1, 1) := by decide +kernel
theorem dX12_barring_73 : decode cX12_barring 73 = .ok (.aload_n 0, 1) := by decide +kernel
theorem dX12_barring_74 : decode cX12_barring 74 = .ok (.getfield 32, 3) := by decide +kernel
theorem dX12_barring_77 : decode cX12_barring 77 = .ok (.invokevirtual 390, 3) := by decide +kernel
theorem dX12_barring_80 : decode cX12_barring 80 = .ok (.goto 4, 3) := by decide +kernel
theorem dX12_barring_83 : decode cX12_barring 83 = .ok (.iconst (-1), 1) := by decide +kernel
theorem dX12_barring_84 : decode cX12_barring 84 = .ok (.istore_n 2, 1) := by decide +kernel
theorem dX12_barring_85 : decode cX12_barring 85 = .ok (.iload_n 2, 1) := by decide +kernel
theorem dX12_barring_86 : decode cX12_barring 86 = .ok (.iconst (-1), 1) := by decide +kernel
theorem dX12_barring_87 : decode cX12_barring 87 = .ok (.if_icmp .eq 29, 3) := by decide +kernel
theorem dX12_barring_90 : decode cX12_barring 90 = .ok (.aload_n 0, 1) := by decide +kernel
theorem dX12_barring_91 : decode cX12_barring 91 = .ok (.getfield 70, 3) := by decide +kernel
theorem dX12_barring_94 : decode cX12_barring 94 = .ok (.bipush 10, 2) := by decide +kernel
theorem dX12_barring_96 : decode cX12_barring 96 = .ok (.aload_n 0, 1) := by decide +kernel
theorem dX12_barring_97 : decode cX12_barring 97 = .ok (.getfield 155, 3) := by decide +kernel
theorem dX12_barring_100 : decode cX12_barring 100 = .ok (.imul, 1) := by decide +kernel
theorem dX12_barring_101 : decode cX12_barring 101 = .ok (.iload_n 2, 1) := by decide +kernel
theorem dX12_barring_102 : decode cX12_barring 102 = .ok (.iadd, 1) := by decide +kernel
theorem dX12_barring_103 : decode cX12_barring 103 = .ok (.baload, 1) := by decide +kernel
theorem dX12_barring_104 : decode cX12_barring 104 = .ok (.ifCond .eq 12, 3) := by decide +kernel
theorem dX12_barring_107 : decode cX12_barring 107 = .ok (.aload_n 0, 1) := by decide +kernel
theorem dX12_barring_108 : decode cX12_barring 108 = .ok (.iconst 3, 1) := by decide +kernel
theorem dX12_barring_109 : decode cX12_barring 109 = .ok (.aload_n 0, 1) := by decide +kernel
theorem dX12_barring_110 : decode cX12_barring 110 = .ok (.getfield 23, 3) := by decide +kernel
theorem dX12_barring_113 : decode cX12_barring 113 = .ok (.invokevirtual 286, 3) := by decide +kernel
theorem dX12_barring_116 : decode cX12_barring 116 = .ok (.aload_n 0, 1) := by decide +kernel
theorem dX12_barring_117 : decode cX12_barring 117 = .ok (.getfield 137, 3) := by decide +kernel
theorem dX12_barring_120 : decode cX12_barring 120 = .ok (.iload_n 1, 1) := by decide +kernel
theorem dX12_barring_121 : decode cX12_barring 121 = .ok (.aload_n 0, 1) := by decide +kernel
theorem dX12_barring_122 : decode cX12_barring 122 = .ok (.iconst 1, 1) := by decide +kernel
theorem dX12_barring_123 : decode cX12_barring 123 = .ok (.invokevirtual 406, 3) := by decide +kernel
theorem dX12_barring_126 : decode cX12_barring 126 = .ok (.iastore, 1) := by decide +kernel
theorem dX12_barring_127 : decode cX12_barring 127 = .ok (.aload_n 0, 1) := by decide +kernel
theorem dX12_barring_128 : decode cX12_barring 128 = .ok (.ldc2_w 326, 3) := by decide +kernel
theorem dX12_barring_131 : decode cX12_barring 131 = .ok (.invokevirtual 402, 3) := by decide +kernel
theorem dX12_barring_134 : decode cX12_barring 134 = .ok (.aload_n 0, 1) := by decide +kernel
theorem dX12_barring_135 : decode cX12_barring 135 = .ok (.getfield 140, 3) := by decide +kernel
theorem dX12_barring_138 : decode cX12_barring 138 = .ok (.iload_n 1, 1) := by decide +kernel
theorem dX12_barring_139 : decode cX12_barring 139 = .ok (.aload_n 0, 1) := by decide +kernel
theorem dX12_barring_140 : decode cX12_barring 140 = .ok (.getfield 152, 3) := by decide +kernel
theorem dX12_barring_143 : decode cX12_barring 143 = .ok (.iastore, 1) := by decide +kernel
theorem dX12_barring_144 : decode cX12_barring 144 = .ok (.aload_n 0, 1) := by decide +kernel
theorem dX12_barring_145 : decode cX12_barring 145 = .ok (.getfield 36, 3) := by decide +kernel
theorem dX12_barring_148 : decode cX12_barring 148 = .ok (.ifCond .ne 8, 3) := by decide +kernel
theorem dX12_barring_151 : decode cX12_barring 151 = .ok (.aload_n 0, 1) := by decide +kernel
theorem dX12_barring_152 : decode cX12_barring 152 = .ok (.iconst 1, 1) := by decide +kernel
theorem dX12_barring_153 : decode cX12_barring 153 = .ok (.invokevirtual 423, 3) := by decide +kernel
theorem dX12_barring_156 : decode cX12_barring 156 = .ok (.aload_n 0, 1) := by decide +kernel
theorem dX12_barring_157 : decode cX12_barring 157 = .ok (.getfield 143, 3) := by decide +kernel
theorem dX12_barring_160 : decode cX12_barring 160 = .ok (.iload_n 1, 1) := by decide +kernel
theorem dX12_barring_161 : decode cX12_barring 161 = .ok (.aload_n 0, 1) := by decide +kernel
theorem dX12_barring_162 : decode cX12_barring 162 = .ok (.getfield 152, 3) := by decide +kernel
theorem dX12_barring_165 : decode cX12_barring 165 = .ok (.iastore, 1) := by decide +kernel
theorem dX12_barring_166 : decode cX12_barring 166 = .ok (.aload_n 0, 1) := by decide +kernel
theorem dX12_barring_167 : decode cX12_barring 167 = .ok (.getfield 36, 3) := by decide +kernel
theorem dX12_barring_170 : decode cX12_barring 170 = .ok (.ifCond .ne 16, 3) := by decide +kernel
theorem dX12_barring_173 : decode cX12_barring 173 = .ok (.aload_n 0, 1) := by decide +kernel
theorem dX12_barring_174 : decode cX12_barring 174 = .ok (.getfield 134, 3) := by decide +kernel
theorem dX12_barring_177 : decode cX12_barring 177 = .ok (.aload_n 0, 1) := by decide +kernel
theorem dX12_barring_178 : decode cX12_barring 178 = .ok (.getfield 155, 3) := by decide +kernel
theorem dX12_barring_181 : decode cX12_barring 181 = .ok (.dup2, 1) := by decide +kernel
theorem dX12_barring_182 : decode cX12_barring 182 = .ok (.iaload, 1) := by decide +kernel
theorem dX12_barring_183 : decode cX12_barring 183 = .ok (.iconst 1, 1) := by decide +kernel
theorem dX12_barring_184 : decode cX12_barring 184 = .ok (.iadd, 1) := by decide +kernel
theorem dX12_barring_185 : decode cX12_barring 185 = .ok (.iastore, 1) := by decide +kernel
theorem dX12_barring_186 : decode cX12_barring 186 = .ok (.return_, 1) := by decide +kernel
abbrev tr_d_X12_barring_5 (z15 : Int) (A : St) (u : St) (A76 : St) : Prop := ((IM A76) ∧ (∃ A80 : St, A80 = (stA A76 32 (6 * (A 0 47) + z15).toNat (A76 0 46)) ∧ (((¬ (A76 0 8) = 0) ∧ (u = A80)) ∨ (((A76 0 8) = 0) ∧ (∃ z97 : Int, z97 = A80 29 ((A 0 47)).toNat ∧ (∃ A98 : St, A98 = (stA A80 29 ((A 0 47)).toNat (z97 + 1)) ∧ (u = A98)))))))
def d_X12_barring_5 (z15 : Int) (A : St) (u : St) (A76 : St) : Prop := tr_d_X12_barring_5 z15 A u A76
theorem u_d_X12_barring_5 {z15 : Int} {A : St} {u : St} {A76 : St} (h : tr_d_X12_barring_5 z15 A u A76) : d_X12_barring_5 z15 A u A76 := h
abbrev tr_d_X12_barring_4 (z15 : Int) (A : St) (u : St) (A39 : St) : Prop := ((IM A39) ∧ (∃ z41 : Int, ∃ A42 : St, q_X12_asked_1 1 A39 z41 A42 ∧ (∃ A46 : St, A46 = (stA A42 30 (6 * (A 0 47) + z15).toNat z41) ∧ (∃ A47 : St, q_X12_must_ 2003330414 A46 A47 ∧ (∃ A51 : St, A51 = (stA A47 31 (6 * (A 0 47) + z15).toNat (A 0 46)) ∧ (((¬ (A47 0 8) = 0) ∧ (d_X12_barring_5 z15 A u A51)) ∨ (((A47 0 8) = 0) ∧ (∃ A71 : St, q_X12_reads 1 A51 A71 ∧ (d_X12_barring_5 z15 A u A71)))))))))
def d_X12_barring_4 (z15 : Int) (A : St) (u : St) (A39 : St) : Prop := tr_d_X12_barring_4 z15 A u A39
theorem u_d_X12_barring_4 {z15 : Int} {A : St} {u : St} {A39 : St} (h : tr_d_X12_barring_4 z15 A u A39) : d_X12_barring_4 z15 A u A39 := h
abbrev tr_d_X12_barring_3 (z15 : Int) (A : St) (A10 : St) (u : St) (z28 : Int) : Prop := ((-1 ≤ z28 ∧ z28 ≤ 9) ∧ (((z28 = (-1)) ∧ (d_X12_barring_4 z15 A u A10)) ∨ ((¬ z28 = (-1)) ∧ (∃ z33 : Int, z33 = A10 8 (10 * (A 0 47) + z28).toNat ∧ (((z33 = 0) ∧ (d_X12_barring_4 z15 A u A10)) ∨ ((¬ z33 = 0) ∧ (∃ A35 : St, q_X12_blame 3 (A10 0 4) A10 A35 ∧ (d_X12_barring_4 z15 A u A35))))))))
def d_X12_barring_3 (z15 : Int) (A : St) (A10 : St) (u : St) (z28 : Int) : Prop := tr_d_X12_barring_3 z15 A A10 u z28
theorem u_d_X12_barring_3 {z15 : Int} {A : St} {A10 : St} {u : St} {z28 : Int} (h : tr_d_X12_barring_3 z15 A A10 u z28) : d_X12_barring_3 z15 A A10 u z28 := h
abbrev tr_d_X12_barring_2 (z15 : Int) (A : St) (A10 : St) (u : St) : Prop := (d_X12_barring_3 z15 A A10 u (-1))
def d_X12_barring_2 (z15 : Int) (A : St) (A10 : St) (u : St) : Prop := tr_d_X12_barring_2 z15 A A10 u
theorem u_d_X12_barring_2 {z15 : Int} {A : St} {A10 : St} {u : St} (h : tr_d_X12_barring_2 z15 A A10 u) : d_X12_barring_2 z15 A A10 u := h
abbrev tr_d_X12_barring_1 (A : St) (u : St) (z4 : Int) : Prop := ((0 ≤ z4 ∧ z4 ≤ 1) ∧ (∃ z9 : Int, ∃ A10 : St, q_X12_counts z4 A z9 A10 ∧ (((¬ z9 = 0) ∧ (∃ z15 : Int, z15 = A10 29 ((A 0 47)).toNat ∧ (((¬ (A10 0 8) = 0) ∧ (d_X12_barring_2 z15 A A10 u)) ∨ (((A10 0 8) = 0) ∧ (((¬ (A10 0 3) = 1) ∧ (d_X12_barring_2 z15 A A10 u)) ∨ (((A10 0 3) = 1) ∧ (∃ z20 : Int, q_X12_isOwn (A10 0 7) A10 z20 ∧ (((¬ z20 = 0) ∧ (d_X12_barring_2 z15 A A10 u)) ∨ ((z20 = 0) ∧ (∃ z24 : Int, q_X12_named_1 1 (A10 0 7) A10 z24 ∧ (d_X12_barring_3 z15 A A10 u z24))))))))))) ∨ ((z9 = 0) ∧ (u = A10)))))
def d_X12_barring_1 (A : St) (u : St) (z4 : Int) : Prop := tr_d_X12_barring_1 A u z4
theorem u_d_X12_barring_1 {A : St} {u : St} {z4 : Int} (h : tr_d_X12_barring_1 A u z4) : d_X12_barring_1 A u z4 := h
abbrev tr_r_X12_barring (A : St) (u : St) : Prop := (∃ z1 : Int, z1 = A 29 ((A 0 47)).toNat ∧ (((¬ z1 = 6) ∧ (d_X12_barring_1 A u 0)) ∨ ((z1 = 6) ∧ (d_X12_barring_1 A u 1))))
def r_X12_barring (A : St) (u : St) : Prop := tr_r_X12_barring A u
theorem u_r_X12_barring {A : St} {u : St} (h : tr_r_X12_barring A u) : r_X12_barring A u := h
def q_X12_barring (A : St) (u : St) : Prop := r_X12_barring A u ∧ IM u ∧ fr [29, 30, 31, 32, 33, 34, 35, 36, 37, 38, 39, 40] [3, 4, 5, 6, 7, 8, 9, 46, 53, 54, 56, 57] A u ∧ CI u ∧ (Hd (u 0 8 = 0 → CB u ∧ A 0 5 ≤ u 0 4))
def ws_mb_X12_barring : List Cond := .code yX12_barring cX12_barring 3 none :: WX
set_option maxHeartbeats 4000000 in
set_option maxRecDepth 100000 in
theorem mb_X12_barring (l : Launch) (dC : Nat → ClassId) (dI : Nat → Nat → Nat) (cB cI cJ cZ cQ : ClassId) (q : Nat → Nat) (A : St) (hI : IM A) (hp0 : CB A) (hcCI : CI A) : XMv l yX12_barring ws_mb_X12_barring ({ frames := 5, cells := 0, slots := 0, locals := 113 } : Room) (dC, dI) (tyA cB cI cJ cZ cQ) (WM cI cJ cZ q) A [.ref (q 0)] (fun u => r_X12_barring A u ∧ IM u ∧ fr [29, 30, 31, 32, 33, 34, 35, 36, 37, 38, 39, 40] [3, 4, 5, 6, 7, 8, 9, 46, 53, 54, 56, 57] A u ∧ CI u ∧ (Hd (u 0 8 = 0 → CB u ∧ A 0 5 ≤ u 0 4))) := by
  refine x_metv (cc := cX12_barring) (maxL := 3) WM_adr (by decide +kernel) rfl (Nat.le_of_ble_eq_true rfl) (fun p e s m below meth c Q AS ls hx hb hml hown hts hK hDD hA0 hP hS hl RET => ?_)
  have hown : s.vm.findClass RX12 = some m.cls := hown
  have hl : lv_has ls 3 [(0, .ref (q 0))] := hl
  have hiX12 : ∀ w ∈ u_ws RX12 TX12 85, w ∈ ws_mb_X12_barring := fun w h => List.mem_cons_of_mem _ (wx_lay w h)
  obtain ⟨H, hHe⟩ : ∃ H : Heap, H = s.heap := ⟨_, rfl⟩
  rw [← hHe] at hP
  have hS : va_S AS s.heap H [] := by rw [hHe]; exact hS
  suffices hgo : ∀ locs : List Loc, va_S AS s.heap H locs → W p l e (headSpec ws_mb_X12_barring ({ frames := 5, cells := 0, slots := 0, locals := 113 } : Room)).room s m [.ref (q 0)].toArray below meth c H locs 0 0 Q (F0 m 0 ls []) by
    have := hgo [] hS
    rw [hHe] at this
    exact this
  clear hS hHe
  intro locs hS
  have hle := CB.le hp0
  refine lv_aload_n hx hb dX12_barring_0 rfl (lv_at hl 0 rfl) ?_
  refine lv_aload_n hx hb dX12_barring_1 rfl (lv_at hl 0 rfl) ?_
  refine va_get (D := (dC, dI)) (ci := 12) (v := .ref (q 29)) (C := RX12) (T := TX12) (N := 85) hx hb hts hiX12 hown hK hP 0 wm0 rfl 40 (by decide) (hts _ (List.mem_cons_of_mem _ (wl_in_3 _ (List.mem_of_getElem? (i := 25) rfl)))) (fun _ h9 => h9) rfl dX12_barring_2 ?_
  refine lv_aload_n hx hb dX12_barring_5 rfl (lv_at hl 0 rfl) ?_
  refine va_get (D := (dC, dI)) (ci := 12) (v := .int (iI (A 0 47))) (C := RX12) (T := TX12) (N := 85) hx hb hts hiX12 hown hK hP 0 wm0 rfl 47 (by decide) (hts _ (List.mem_cons_of_mem _ (wl_in_1 _ (List.mem_of_getElem? (i := 12) rfl)))) (fun _ h9 => h9) rfl dX12_barring_6 ?_
  have r_A_0_47 : (0 : Int) ≤ (A 0 47) ∧ (A 0 47) ≤ 1 := hI 0 47
  refine x_iald hx hb hK hP 29 1 wm29 rfl (by omega) (by decide) dX12_barring_9 (fun z1 hz1 => ?_)
  have rz1 : (0 : Int) ≤ z1 ∧ z1 ≤ 6 := by rw [hz1]; exact hI 29 _
  have gz1 := Hd.mk hz1
  have hz1 : z1 = A 29 ((A 0 47)).toNat := hz1
  refine lv_bipush (v := iI 6) hx hb dX12_barring_10 (by decide +kernel) ?_
  have J20_3 : ∀ (z4 : Int) (H : Heap) (locs : List Loc) (ls : Array Slot), (0 ≤ z4 ∧ z4 ≤ 1) → ((z4 = 0 ∧ ¬ z1 = 6) ∨ (z4 = 1 ∧ z1 = 6)) → (Hd ((z4 = 1 ∧ A 29 (A 0 47).toNat = 6) ∨ (z4 = 0 ∧ ¬ A 29 (A 0 47).toNat = 6))) → (∀ (u : St), (d_X12_barring_1 A u z4) → r_X12_barring A u) → va_P (dC, dI) vwCl (WM cI cJ cZ q A) H → va_S AS s.heap H locs → lv_has ls 3 [(0, .ref (q 0))] → W p l e (headSpec ws_mb_X12_barring ({ frames := 5, cells := 0, slots := 0, locals := 113 } : Room)).room s m [.ref (q 0)].toArray below meth c H locs 0 0 Q (F0 m 20 ls [.int (iI z4), .ref (q 0)]) := by
    intro z4 H locs ls f6 f7 f8 hk1 hP hS hl
    have r_A_0_4 : (0 : Int) ≤ (A 0 4) ∧ (A 0 4) ≤ 1600 := hI 0 4
    have r_A_0_5 : (0 : Int) ≤ (A 0 5) ∧ (A 0 5) ≤ 1600 := hI 0 5
    refine x_calli (As := [.int (iI z4)]) (rest := []) ⟨hx, hb, hml, hown, hts⟩ (mb_X12_counts l dC dI cB cI cJ cZ cQ q _ z4 hI f6 hp0) (cwV 1 hts (goodV (wl_in_2 _ (List.mem_of_getElem? (i := 32) rfl)) (wl_in_2 _ (List.mem_of_getElem? (i := 33) rfl)) (wl_in_2 _ (List.mem_of_getElem? (i := 34) rfl)) (wl_in_0 _ (List.mem_of_getElem? (i := 8) rfl)) (wl_in_2 _ (List.mem_of_getElem? (i := 20) rfl))) rfl rfl rfl (by decide +kernel) ⟨Nat.le_of_ble_eq_true rfl, Nat.le_of_ble_eq_true rfl⟩) hK hDD hA0 hP hS 0 12 wm0 rfl rfl hl.1 (Nat.le_of_ble_eq_true rfl) dX12_barring_20 (fun z9 A10 H locs hw11 hP hS => ?_)
    have ghw11 : q_X12_counts z4 A z9 A10 := hw11
    obtain ⟨_, hI, hf12, hw11⟩ := hw11
    obtain ⟨hc13, hw11⟩ := hw11
    have r_A10_0_4 : (0 : Int) ≤ (A10 0 4) ∧ (A10 0 4) ≤ 1600 := hI 0 4
    have r_A10_0_8 : (0 : Int) ≤ (A10 0 8) ∧ (A10 0 8) ≤ 5 := hI 0 8
    have rz9 : 0 ≤ z9 ∧ z9 ≤ 1 := hw11.1
    refine lv_if_ne (tgt := 27) hx hb dX12_barring_23 (by decide) (fun c14 => ?_) (fun c14 => ?_)
    · have c14 : ¬ z9 = 0 := mt (i_eq0 (rb rz9 (by decide) (by decide))).mpr c14
      refine lv_bipush (v := iI 6) hx hb dX12_barring_27 (by decide +kernel) ?_
      refine lv_aload_n hx hb dX12_barring_29 rfl (lv_at hl 0 rfl) ?_
      have e_A10_47 : A10 0 47 = (A 0 47) := (hf12.2 47 rfl)
      refine va_get (D := (dC, dI)) (ci := 12) (v := .int (iI (A10 0 47))) (C := RX12) (T := TX12) (N := 85) hx hb hts hiX12 hown hK hP 0 wm0 rfl 47 (by decide) (hts _ (List.mem_cons_of_mem _ (wl_in_1 _ (List.mem_of_getElem? (i := 12) rfl)))) (fun _ h9 => h9) rfl dX12_barring_30 ?_
      refine tp_i (y := iI (A 0 47)) (congrArg iI e_A10_47) ?_
      refine x_mulv (v := 6 * (A 0 47)) hx hb dX12_barring_33 (by omega) ?_
      refine lv_aload_n hx hb dX12_barring_34 rfl (lv_at hl 0 rfl) ?_
      refine va_get (D := (dC, dI)) (ci := 12) (v := .ref (q 29)) (C := RX12) (T := TX12) (N := 85) hx hb hts hiX12 hown hK hP 0 wm0 rfl 40 (by decide) (hts _ (List.mem_cons_of_mem _ (wl_in_3 _ (List.mem_of_getElem? (i := 25) rfl)))) (fun _ h9 => h9) rfl dX12_barring_35 ?_
      refine lv_aload_n hx hb dX12_barring_38 rfl (lv_at hl 0 rfl) ?_
      refine va_get (D := (dC, dI)) (ci := 12) (v := .int (iI (A10 0 47))) (C := RX12) (T := TX12) (N := 85) hx hb hts hiX12 hown hK hP 0 wm0 rfl 47 (by decide) (hts _ (List.mem_cons_of_mem _ (wl_in_1 _ (List.mem_of_getElem? (i := 12) rfl)))) (fun _ h9 => h9) rfl dX12_barring_39 ?_
      refine tp_i (y := iI (A 0 47)) (congrArg iI e_A10_47) ?_
      have a_A10_29 : A10 29 = A 29 := (hf12.1 29 (by decide) rfl)
      refine x_iald hx hb hK hP 29 1 wm29 rfl (by omega) (by decide) dX12_barring_42 (fun z15 hz15 => ?_)
      have rz15 : (0 : Int) ≤ z15 ∧ z15 ≤ 6 := by rw [hz15]; exact hI 29 _
      have gz15 := Hd.mk hz15
      have hz15 : z15 = A 29 ((A 0 47)).toNat := hz15.trans (congrFun a_A10_29 _)
      have ez15 : z15 = z1 := hz15.trans hz1.symm
      refine x_addv (v := 6 * (A 0 47) + z15) hx hb dX12_barring_43 (by omega) ?_
      refine lv_istore_n (lv' := [(1, .int (iI (6 * (A 0 47) + z15))), (0, .ref (q 0))]) hx hb dX12_barring_44 rfl hl (by decide) rfl (fun ls hl => ?_)
      refine lv_aload_n hx hb dX12_barring_45 rfl (lv_at hl 1 rfl) ?_
      refine va_get (D := (dC, dI)) (ci := 12) (v := .int (iI (A10 0 8))) (C := RX12) (T := TX12) (N := 85) hx hb hts hiX12 hown hK hP 0 wm0 rfl 8 (by decide) (hts _ (List.mem_cons_of_mem _ (wl_in_0 _ (List.mem_of_getElem? (i := 16) rfl)))) (fun _ h9 => h9) rfl dX12_barring_46 ?_
      have J84_18 : ∀ (z28 : Int) (H : Heap) (locs : List Loc) (ls : Array Slot), (-1 ≤ z28 ∧ z28 ≤ 9) → (∀ (u : St), (d_X12_barring_3 z15 A A10 u z28) → r_X12_barring A u) → va_P (dC, dI) vwCl (WM cI cJ cZ q A10) H → va_S AS s.heap H locs → lv_has ls 3 [(1, .int (iI (6 * (A 0 47) + z15))), (0, .ref (q 0))] → W p l e (headSpec ws_mb_X12_barring ({ frames := 5, cells := 0, slots := 0, locals := 113 } : Room)).room s m [.ref (q 0)].toArray below meth c H locs 0 0 Q (F0 m 84 ls [.int (iI z28)]) := by
        intro z28 H locs ls f30 hk3 hP hS hl
        refine lv_istore_n (lv' := [(2, .int (iI z28)), (1, .int (iI (6 * (A 0 47) + z15))), (0, .ref (q 0))]) hx hb dX12_barring_84 rfl hl (by decide) rfl (fun ls hl => ?_)
        refine lv_iload_n hx hb dX12_barring_85 rfl (lv_at hl 0 rfl) ?_
        refine lv_iconst (v := iI (-1)) hx hb dX12_barring_86 (by decide +kernel) ?_
        have J116_32 : ∀ (A39 : St) (H : Heap) (locs : List Loc) (ls : Array Slot), (∀ (u : St), (d_X12_barring_4 z15 A u A39) → r_X12_barring A u) → IM A39 → fr [] [8, 9] A10 A39 → va_P (dC, dI) vwCl (WM cI cJ cZ q A39) H → va_S AS s.heap H locs → lv_has ls 3 [(2, .int (iI z28)), (1, .int (iI (6 * (A 0 47) + z15))), (0, .ref (q 0))] → W p l e (headSpec ws_mb_X12_barring ({ frames := 5, cells := 0, slots := 0, locals := 113 } : Room)).room s m [.ref (q 0)].toArray below meth c H locs 0 0 Q (F0 m 116 ls []) := by
          intro A39 H locs ls hk4 hI hj38 hP hS hl
          have gI40 : Hd (IM A39) := Hd.mk hI
          refine lv_aload_n hx hb dX12_barring_116 rfl (lv_at hl 2 rfl) ?_
          refine va_get (D := (dC, dI)) (ci := 12) (v := .ref (q 30)) (C := RX12) (T := TX12) (N := 85) hx hb hts hiX12 hown hK hP 0 wm0 rfl 41 (by decide) (hts _ (List.mem_cons_of_mem _ (wl_in_3 _ (List.mem_of_getElem? (i := 26) rfl)))) (fun _ h9 => h9) rfl dX12_barring_117 ?_
          refine lv_iload_n hx hb dX12_barring_120 rfl (lv_at hl 1 rfl) ?_
          refine lv_aload_n hx hb dX12_barring_121 rfl (lv_at hl 2 rfl) ?_
          refine lv_iconst (v := iI 1) hx hb dX12_barring_122 (by decide +kernel) ?_
          have e_A39_3 : A39 0 3 = (A10 0 3) := (hj38.2 3 rfl)
          have r_A10_0_3 : (0 : Int) ≤ (A10 0 3) ∧ (A10 0 3) ≤ 3 := by rw [← e_A39_3]; exact hI 0 3
          have e_A39_4 : A39 0 4 = (A10 0 4) := (hj38.2 4 rfl)
          have e_A39_7 : A39 0 7 = (A10 0 7) := (hj38.2 7 rfl)
          have r_A10_0_7 : (-9223372036854775808 : Int) ≤ (A10 0 7) ∧ (A10 0 7) ≤ 9223372036854775807 := by rw [← e_A39_7]; exact hI 0 7
          have r_A39_0_8 : (0 : Int) ≤ (A39 0 8) ∧ (A39 0 8) ≤ 5 := hI 0 8
          have e_A39_47 : A39 0 47 = (A 0 47) := (hj38.2 47 rfl).trans e_A10_47
          refine x_calli (As := [.int (iI 1)]) (rest := [.int (iI (6 * (A 0 47) + z15)), .ref (q 30)]) ⟨hx, hb, hml, hown, hts⟩ (mb_X12_asked_1 l dC dI cB cI cJ cZ cQ q _ 1 hI ⟨by decide, by decide⟩ (CB.fr hc13 hj38 rfl rfl)) (cwV 1 hts (goodV (wl_in_2 _ (List.mem_of_getElem? (i := 47) rfl)) (wl_in_2 _ (List.mem_of_getElem? (i := 48) rfl)) (wl_in_2 _ (List.mem_of_getElem? (i := 49) rfl)) (wl_in_0 _ (List.mem_of_getElem? (i := 8) rfl)) (wl_in_2 _ (List.mem_of_getElem? (i := 29) rfl))) rfl rfl rfl (by decide +kernel) ⟨Nat.le_of_ble_eq_true rfl, Nat.le_of_ble_eq_true rfl⟩) hK hDD hA0 hP hS 0 12 wm0 rfl rfl hl.1 (Nat.le_of_ble_eq_true rfl) dX12_barring_123 (fun z41 A42 H locs hw43 hP hS => ?_)
          have ghw43 : q_X12_asked_1 1 A39 z41 A42 := hw43
          obtain ⟨_, hI, hf44, hw43⟩ := hw43
          obtain ⟨hc45, hw43⟩ := hw43
          have r_A42_0_4 : (0 : Int) ≤ (A42 0 4) ∧ (A42 0 4) ≤ 1600 := hI 0 4
          have r_A42_0_8 : (0 : Int) ≤ (A42 0 8) ∧ (A42 0 8) ≤ 5 := hI 0 8
          refine x_iast hx hb hK hP hDD hS 30 1 wm30 rfl (by omega) (by decide) dX12_barring_126 ws30 (fun H locs hP hS => ?_)
          have hI := hI.st (j := 30) (i := (6 * (A 0 47) + z15).toNat) (v := z41) (show (0 : Int) ≤ z41 ∧ z41 ≤ 9 from (by omega))
          refine lv_aload_n hx hb dX12_barring_127 rfl (lv_at hl 2 rfl) ?_
          refine lv_ldc2 (v := 2003330414) hx hb hown (hts _ (List.mem_cons_of_mem _ (wl_in_0 _ (List.mem_of_getElem? (i := 59) rfl)))) dX12_barring_128 ?_
          refine tp_l (y := jI 2003330414) (by decide +kernel) ?_
          obtain ⟨A46, hA46⟩ : ∃ A46 : St, A46 = (stA A42 30 (6 * (A 0 47) + z15).toNat z41) := ⟨_, rfl⟩
          rw [← hA46] at hP hI
          have e_A46_4 : A46 0 4 = (A42 0 4) := by rw [hA46]; exact rfl
          refine x_callv (As := [.long (jI 2003330414)]) (rest := []) ⟨hx, hb, hml, hown, hts⟩ (mb_X12_must_ l dC dI cB cI cJ cZ cQ q _ 2003330414 hI ⟨by decide, by decide⟩ (CB.fr hc45 (fr_def hA46 (fr.st (fr.rf (M := [30]) (N := [])) (by decide) rfl)) rfl rfl)) (cwV 1 hts (goodV (wl_in_2 _ (List.mem_of_getElem? (i := 44) rfl)) (wl_in_2 _ (List.mem_of_getElem? (i := 45) rfl)) (wl_in_2 _ (List.mem_of_getElem? (i := 46) rfl)) (wl_in_0 _ (List.mem_of_getElem? (i := 8) rfl)) (wl_in_2 _ (List.mem_of_getElem? (i := 21) rfl))) rfl rfl rfl (by decide +kernel) ⟨Nat.le_of_ble_eq_true rfl, Nat.le_of_ble_eq_true rfl⟩) hK hDD hA0 hP hS 0 12 wm0 rfl rfl hl.1 (Nat.le_of_ble_eq_true rfl) dX12_barring_131 (fun A47 H locs hw48 hP hS => ?_)
          have ghw48 : q_X12_must_ 2003330414 A46 A47 := hw48
          obtain ⟨_, hI, hf49, hw48⟩ := hw48
          obtain ⟨hc50, hw48⟩ := hw48
          have r_A47_0_4 : (0 : Int) ≤ (A47 0 4) ∧ (A47 0 4) ≤ 1600 := hI 0 4
          have hIa := hI
          refine lv_aload_n hx hb dX12_barring_134 rfl (lv_at hl 2 rfl) ?_
          refine va_get (D := (dC, dI)) (ci := 12) (v := .ref (q 31)) (C := RX12) (T := TX12) (N := 85) hx hb hts hiX12 hown hK hP 0 wm0 rfl 42 (by decide) (hts _ (List.mem_cons_of_mem _ (wl_in_3 _ (List.mem_of_getElem? (i := 27) rfl)))) (fun _ h9 => h9) rfl dX12_barring_135 ?_
          refine lv_iload_n hx hb dX12_barring_138 rfl (lv_at hl 1 rfl) ?_
          refine lv_aload_n hx hb dX12_barring_139 rfl (lv_at hl 2 rfl) ?_
          have e_A10_46 : A10 0 46 = (A 0 46) := (hf12.2 46 rfl)
          have e_A39_46 : A39 0 46 = (A 0 46) := (hj38.2 46 rfl).trans e_A10_46
          have e_A42_46 : A42 0 46 = (A 0 46) := (hf44.2 46 rfl).trans e_A39_46
          have e_A46_46 : A46 0 46 = (A 0 46) := by rw [hA46]; exact e_A42_46
          have e_A47_46 : A47 0 46 = (A 0 46) := (hf49.2 46 rfl).trans e_A46_46
          refine va_get (D := (dC, dI)) (ci := 12) (v := .int (iI (A47 0 46))) (C := RX12) (T := TX12) (N := 85) hx hb hts hiX12 hown hK hP 0 wm0 rfl 46 (by decide) (hts _ (List.mem_cons_of_mem _ (wl_in_1 _ (List.mem_of_getElem? (i := 31) rfl)))) (fun _ h9 => h9) rfl dX12_barring_140 ?_
          refine tp_i (y := iI (A 0 46)) (congrArg iI e_A47_46) ?_
          have r_A_0_46 : (0 : Int) ≤ (A 0 46) ∧ (A 0 46) ≤ 1600 := by rw [← e_A47_46]; exact hI 0 46
          refine x_iast hx hb hK hP hDD hS 31 1 wm31 rfl (by omega) (by decide) dX12_barring_143 ws31 (fun H locs hP hS => ?_)
          have hI := hI.st (j := 31) (i := (6 * (A 0 47) + z15).toNat) (v := (A 0 46)) (show (0 : Int) ≤ (A 0 46) ∧ (A 0 46) ≤ 1600 from (by omega))
          obtain ⟨A51, hA51⟩ : ∃ A51 : St, A51 = (stA A47 31 (6 * (A 0 47) + z15).toNat (A 0 46)) := ⟨_, rfl⟩
          rw [← hA51] at hP hI
          have g31 : A51 31 = up (A47 31) (6 * (A 0 47) + z15).toNat (A 0 46) := by rw [hA51]; rfl
          have ca53 : A10 29 = A 29 := (hf12.1 29 (by decide) rfl)
          have ca54 : A39 29 = A 29 := (hj38.1 29 (by decide) rfl).trans ca53
          have ca55 : A42 29 = A 29 := (hf44.1 29 (by decide) rfl).trans ca54
          have ca56 : A46 29 = A 29 := by rw [hA46]; exact ca55
          have ca57 : A47 29 = A 29 := (hf49.1 29 (by decide) rfl).trans ca56
          have e_A42_47 : A42 0 47 = (A 0 47) := (hf44.2 47 rfl).trans e_A39_47
          have e_A46_47 : A46 0 47 = (A 0 47) := by rw [hA46]; exact e_A42_47
          have e_A47_47 : A47 0 47 = (A 0 47) := (hf49.2 47 rfl).trans e_A46_47
          have ca58 : A10 29 = A 29 := (hf12.1 29 (by decide) rfl)
          have ca59 : A39 29 = A 29 := (hj38.1 29 (by decide) rfl).trans ca58
          have ca60 : A42 29 = A 29 := (hf44.1 29 (by decide) rfl).trans ca59
          have ca61 : A46 29 = A 29 := by rw [hA46]; exact ca60
          have ca62 : A47 29 = A 29 := (hf49.1 29 (by decide) rfl).trans ca61
          have hc52 : CI A51 := CI.s31 (v := (A 0 46)) (CI.fr (CI.fr (CI.fr (CI.fr (CI.fr hcCI hf12 rfl rfl) hj38 rfl rfl) hf44 rfl rfl) (fr_def hA46 (fr.st (fr.rf (M := [30]) (N := [])) (by decide) rfl)) rfl rfl) hf49 rfl rfl) hIa (by rw [ca57, e_A47_47]; have g := f8.out; omega) (by rw [hA51]; rfl) (g31.trans (by rw [show 6 * A47 0 47 + A47 29 (A47 0 47).toNat = 6 * (A 0 47) + z15 by rw [ca62, e_A47_47]; omega])) (by rw [hA51]; rfl) (by rw [hA51]; rfl) (by rw [hA51]; rfl) (by rw [hA51]; rfl)
          refine lv_aload_n hx hb dX12_barring_144 rfl (lv_at hl 2 rfl) ?_
          have e_A51_8 : A51 0 8 = (A47 0 8) := by rw [hA51]; exact rfl
          refine va_get (D := (dC, dI)) (ci := 12) (v := .int (iI (A51 0 8))) (C := RX12) (T := TX12) (N := 85) hx hb hts hiX12 hown hK hP 0 wm0 rfl 8 (by decide) (hts _ (List.mem_cons_of_mem _ (wl_in_0 _ (List.mem_of_getElem? (i := 16) rfl)))) (fun _ h9 => h9) rfl dX12_barring_145 ?_
          refine tp_i (y := iI (A47 0 8)) (congrArg iI e_A51_8) ?_
          have r_A47_0_8 : (0 : Int) ≤ (A47 0 8) ∧ (A47 0 8) ≤ 5 := by rw [← e_A51_8]; exact hI 0 8
          have J156_64 : ∀ (A76 : St) (H : Heap) (locs : List Loc) (ls : Array Slot), (Hd ((A76 0 8) = 0 → DP (A76 33) (sA A76) (1600 * A76 0 47 + A76 0 46) 1 ∧ CB A76 ∧ A 0 5 ≤ (A76 0 4))) → (CI A76) → (∀ (u : St), (d_X12_barring_5 z15 A u A76) → r_X12_barring A u) → IM A76 → fr [33, 34, 35, 36, 37, 38, 39, 40] [3, 4, 5, 6, 7, 8, 9, 46, 53, 54, 56, 57] A51 A76 → va_P (dC, dI) vwCl (WM cI cJ cZ q A76) H → va_S AS s.heap H locs → lv_has ls 3 [(2, .int (iI z28)), (1, .int (iI (6 * (A 0 47) + z15))), (0, .ref (q 0))] → W p l e (headSpec ws_mb_X12_barring ({ frames := 5, cells := 0, slots := 0, locals := 113 } : Room)).room s m [.ref (q 0)].toArray below meth c H locs 0 0 Q (F0 m 156 ls []) := by
            intro A76 H locs ls f77 hc78 hk5 hI hj75 hP hS hl
            have gI79 : Hd (IM A76) := Hd.mk hI
            have hIb := hI
            refine lv_aload_n hx hb dX12_barring_156 rfl (lv_at hl 2 rfl) ?_
            refine va_get (D := (dC, dI)) (ci := 12) (v := .ref (q 32)) (C := RX12) (T := TX12) (N := 85) hx hb hts hiX12 hown hK hP 0 wm0 rfl 43 (by decide) (hts _ (List.mem_cons_of_mem _ (wl_in_3 _ (List.mem_of_getElem? (i := 28) rfl)))) (fun _ h9 => h9) rfl dX12_barring_157 ?_
            refine lv_iload_n hx hb dX12_barring_160 rfl (lv_at hl 1 rfl) ?_
            refine lv_aload_n hx hb dX12_barring_161 rfl (lv_at hl 2 rfl) ?_
            refine va_get (D := (dC, dI)) (ci := 12) (v := .int (iI (A76 0 46))) (C := RX12) (T := TX12) (N := 85) hx hb hts hiX12 hown hK hP 0 wm0 rfl 46 (by decide) (hts _ (List.mem_cons_of_mem _ (wl_in_1 _ (List.mem_of_getElem? (i := 31) rfl)))) (fun _ h9 => h9) rfl dX12_barring_162 ?_
            have r_A76_0_46 : (0 : Int) ≤ (A76 0 46) ∧ (A76 0 46) ≤ 1600 := hI 0 46
            refine x_iast hx hb hK hP hDD hS 32 1 wm32 rfl (by omega) (by decide) dX12_barring_165 ws32 (fun H locs hP hS => ?_)
            have hI := hI.st (j := 32) (i := (6 * (A 0 47) + z15).toNat) (v := (A76 0 46)) (show (0 : Int) ≤ (A76 0 46) ∧ (A76 0 46) ≤ 1600 from (by omega))
            obtain ⟨A80, hA80⟩ : ∃ A80 : St, A80 = (stA A76 32 (6 * (A 0 47) + z15).toNat (A76 0 46)) := ⟨_, rfl⟩
            rw [← hA80] at hP hI
            have g32 : A80 32 = up (A76 32) (6 * (A 0 47) + z15).toNat (A76 0 46) := by rw [hA80]; rfl
            have ca82 : A10 29 = A 29 := (hf12.1 29 (by decide) rfl)
            have ca83 : A39 29 = A 29 := (hj38.1 29 (by decide) rfl).trans ca82
            have ca84 : A42 29 = A 29 := (hf44.1 29 (by decide) rfl).trans ca83
            have ca85 : A46 29 = A 29 := by rw [hA46]; exact ca84
            have ca86 : A47 29 = A 29 := (hf49.1 29 (by decide) rfl).trans ca85
            have ca87 : A51 29 = A 29 := by rw [hA51]; exact ca86
            have ca88 : A76 29 = A 29 := (hj75.1 29 (by decide) rfl).trans ca87
            have e_A51_47 : A51 0 47 = (A 0 47) := by rw [hA51]; exact e_A47_47
            have e_A76_47 : A76 0 47 = (A 0 47) := (hj75.2 47 rfl).trans e_A51_47
            have ca89 : A10 29 = A 29 := (hf12.1 29 (by decide) rfl)
            have ca90 : A39 29 = A 29 := (hj38.1 29 (by decide) rfl).trans ca89
            have ca91 : A42 29 = A 29 := (hf44.1 29 (by decide) rfl).trans ca90
            have ca92 : A46 29 = A 29 := by rw [hA46]; exact ca91
            have ca93 : A47 29 = A 29 := (hf49.1 29 (by decide) rfl).trans ca92
            have ca94 : A51 29 = A 29 := by rw [hA51]; exact ca93
            have ca95 : A76 29 = A 29 := (hj75.1 29 (by decide) rfl).trans ca94
            have hc81 : CI A80 := CI.s32 (v := (A76 0 46)) hc78 hIb (by rw [ca88, e_A76_47]; have g := f8.out; omega) (by rw [hA80]; rfl) (by rw [hA80]; rfl) (g32.trans (by rw [show 6 * A76 0 47 + A76 29 (A76 0 47).toNat = 6 * (A 0 47) + z15 by rw [ca95, e_A76_47]; omega])) (by rw [hA80]; rfl) (by rw [hA80]; rfl) (by rw [hA80]; rfl)
            have hIc := hI
            refine lv_aload_n hx hb dX12_barring_166 rfl (lv_at hl 2 rfl) ?_
            have e_A80_8 : A80 0 8 = (A76 0 8) := by rw [hA80]; exact rfl
            refine va_get (D := (dC, dI)) (ci := 12) (v := .int (iI (A80 0 8))) (C := RX12) (T := TX12) (N := 85) hx hb hts hiX12 hown hK hP 0 wm0 rfl 8 (by decide) (hts _ (List.mem_cons_of_mem _ (wl_in_0 _ (List.mem_of_getElem? (i := 16) rfl)))) (fun _ h9 => h9) rfl dX12_barring_167 ?_
            refine tp_i (y := iI (A76 0 8)) (congrArg iI e_A80_8) ?_
            have r_A76_0_8 : (0 : Int) ≤ (A76 0 8) ∧ (A76 0 8) ≤ 5 := by rw [← e_A80_8]; exact hI 0 8
            refine lv_if_ne (tgt := 186) hx hb dX12_barring_170 (by decide) (fun c96 => ?_) (fun c96 => ?_)
            · have c96 : ¬ (A76 0 8) = 0 := mt (i_eq0 (rb r_A76_0_8 (by decide) (by decide))).mpr c96
              have e_A80_4 : A80 0 4 = (A76 0 4) := by rw [hA80]; exact rfl
              have r_A76_0_4 : (0 : Int) ≤ (A76 0 4) ∧ (A76 0 4) ≤ 1600 := by rw [← e_A80_4]; exact hI 0 4
              have e_A80_5 : A80 0 5 = (A76 0 5) := by rw [hA80]; exact rfl
              have r_A76_0_5 : (0 : Int) ≤ (A76 0 5) ∧ (A76 0 5) ≤ 1600 := by rw [← e_A80_5]; exact hI 0 5
              exact RET _ _ _ _ _ ⟨hk5 _ (u_d_X12_barring_5 ⟨gI79.out, ⟨A80, hA80, (Or.inl ⟨c96, rfl⟩)⟩⟩), hI, fr_def hA80 (fr.st (fr.trans (fr_def hA51 (fr.st (fr.trans (fr_def hA46 (fr.st (fr.trans (fr.trans (fr.trans (fr.rf) hf12 rfl rfl) hj38 rfl rfl) hf44 rfl rfl) (by decide) rfl)) hf49 rfl rfl) (by decide) rfl)) hj75 rfl rfl) (by decide) rfl), hc81, Hd.mk (fun h0 => ⟨(CB.fr (f77.out (by omega)).2.1 (fr_def hA80 (fr.st (fr.rf (M := [32]) (N := [])) (by decide) rfl)) rfl rfl), by have g := (f77.out (by omega)).2.2; omega⟩)⟩ hP hS dX12_barring_186
            · have c96 : (A76 0 8) = 0 := (i_eq0 (rb r_A76_0_8 (by decide) (by decide))).mp c96
              refine lv_aload_n hx hb dX12_barring_173 rfl (lv_at hl 2 rfl) ?_
              refine va_get (D := (dC, dI)) (ci := 12) (v := .ref (q 29)) (C := RX12) (T := TX12) (N := 85) hx hb hts hiX12 hown hK hP 0 wm0 rfl 40 (by decide) (hts _ (List.mem_cons_of_mem _ (wl_in_3 _ (List.mem_of_getElem? (i := 25) rfl)))) (fun _ h9 => h9) rfl dX12_barring_174 ?_
              refine lv_aload_n hx hb dX12_barring_177 rfl (lv_at hl 2 rfl) ?_
              have e_A80_47 : A80 0 47 = (A 0 47) := by rw [hA80]; exact e_A76_47
              refine va_get (D := (dC, dI)) (ci := 12) (v := .int (iI (A80 0 47))) (C := RX12) (T := TX12) (N := 85) hx hb hts hiX12 hown hK hP 0 wm0 rfl 47 (by decide) (hts _ (List.mem_cons_of_mem _ (wl_in_1 _ (List.mem_of_getElem? (i := 12) rfl)))) (fun _ h9 => h9) rfl dX12_barring_178 ?_
              refine tp_i (y := iI (A 0 47)) (congrArg iI e_A80_47) ?_
              refine lv_dup2_11 hx hb dX12_barring_181 rfl rfl ?_
              have a_A39_29 : A39 29 = A 29 := (hj38.1 29 (by decide) rfl).trans a_A10_29
              have a_A42_29 : A42 29 = A 29 := (hf44.1 29 (by decide) rfl).trans a_A39_29
              have a_A46_29 : A46 29 = A 29 := by rw [hA46]; exact a_A42_29
              have a_A47_29 : A47 29 = A 29 := (hf49.1 29 (by decide) rfl).trans a_A46_29
              have a_A51_29 : A51 29 = A 29 := by rw [hA51]; exact a_A47_29
              have a_A76_29 : A76 29 = A 29 := (hj75.1 29 (by decide) rfl).trans a_A51_29
              have a_A80_29 : A80 29 = A 29 := by rw [hA80]; exact a_A76_29
              refine x_iald hx hb hK hP 29 1 wm29 rfl (by omega) (by decide) dX12_barring_182 (fun z97 hz97 => ?_)
              have rz97 : (0 : Int) ≤ z97 ∧ z97 ≤ 6 := by rw [hz97]; exact hI 29 _
              have gz97 := Hd.mk hz97
              have hz97 : z97 = A 29 ((A 0 47)).toNat := hz97.trans (congrFun a_A80_29 _)
              have ez97 : z97 = z1 := hz97.trans hz1.symm
              refine lv_iconst (v := iI 1) hx hb dX12_barring_183 (by decide +kernel) ?_
              refine x_addv (v := z97 + 1) hx hb dX12_barring_184 (by omega) ?_
              refine x_iast hx hb hK hP hDD hS 29 1 wm29 rfl (by omega) (by decide) dX12_barring_185 ws29 (fun H locs hP hS => ?_)
              have hI := hI.st (j := 29) (i := ((A 0 47)).toNat) (v := z97 + 1) (show (0 : Int) ≤ z97 + 1 ∧ z97 + 1 ≤ 6 from (by omega))
              have e_A80_3 : A80 0 3 = (A76 0 3) := by rw [hA80]; exact rfl
              have e_A80_4 : A80 0 4 = (A76 0 4) := by rw [hA80]; exact rfl
              have e_A80_5 : A80 0 5 = (A76 0 5) := by rw [hA80]; exact rfl
              have e_A80_7 : A80 0 7 = (A76 0 7) := by rw [hA80]; exact rfl
              have e_A80_46 : A80 0 46 = (A76 0 46) := by rw [hA80]; exact rfl
              have e_A80_53 : A80 0 53 = (A76 0 53) := by rw [hA80]; exact rfl
              have e_A80_54 : A80 0 54 = (A76 0 54) := by rw [hA80]; exact rfl
              have e_A80_56 : A80 0 56 = (A76 0 56) := by rw [hA80]; exact rfl
              have r_A76_0_3 : (0 : Int) ≤ (A76 0 3) ∧ (A76 0 3) ≤ 3 := by rw [← e_A80_3]; exact hI 0 3
              have r_A76_0_4 : (0 : Int) ≤ (A76 0 4) ∧ (A76 0 4) ≤ 1600 := by rw [← e_A80_4]; exact hI 0 4
              have r_A76_0_5 : (0 : Int) ≤ (A76 0 5) ∧ (A76 0 5) ≤ 1600 := by rw [← e_A80_5]; exact hI 0 5
              have r_A76_0_7 : (-9223372036854775808 : Int) ≤ (A76 0 7) ∧ (A76 0 7) ≤ 9223372036854775807 := by rw [← e_A80_7]; exact hI 0 7
              have r_A76_0_53 : (0 : Int) ≤ (A76 0 53) ∧ (A76 0 53) ≤ 20 := by rw [← e_A80_53]; exact hI 0 53
              have r_A76_0_54 : (0 : Int) ≤ (A76 0 54) ∧ (A76 0 54) ≤ 8 := by rw [← e_A80_54]; exact hI 0 54
              have r_A76_0_56 : (0 : Int) ≤ (A76 0 56) ∧ (A76 0 56) ≤ 500 := by rw [← e_A80_56]; exact hI 0 56
              obtain ⟨A98, hA98⟩ : ∃ A98 : St, A98 = (stA A80 29 ((A 0 47)).toNat (z97 + 1)) := ⟨_, rfl⟩
              rw [← hA98] at hP hI
              have gd := (f77.out (by omega)).1
              have ca99 : A80 29 = A76 29 := by rw [hA80]; exact rfl
              have ca100 : A80 31 = A76 31 := by rw [hA80]; exact rfl
              have ca101 : A80 33 = A76 33 := by rw [hA80]; exact rfl
              have gd2 := DPt (A := A76) (B := A80) ca99 ca100 ca101 e_A80_46 (e_A80_47.trans e_A76_47.symm) gd
              have g29 : A98 29 = up (A80 29) (A 0 47).toNat (z97 + 1) := by rw [hA98]; rfl
              have ca103 : A10 29 = A 29 := (hf12.1 29 (by decide) rfl)
              have ca104 : A39 29 = A 29 := (hj38.1 29 (by decide) rfl).trans ca103
              have ca105 : A42 29 = A 29 := (hf44.1 29 (by decide) rfl).trans ca104
              have ca106 : A46 29 = A 29 := by rw [hA46]; exact ca105
              have ca107 : A47 29 = A 29 := (hf49.1 29 (by decide) rfl).trans ca106
              have ca108 : A51 29 = A 29 := by rw [hA51]; exact ca107
              have ca109 : A76 29 = A 29 := (hj75.1 29 (by decide) rfl).trans ca108
              have ca110 : A80 29 = A 29 := by rw [hA80]; exact ca109
              have ca111 : A10 29 = A 29 := (hf12.1 29 (by decide) rfl)
              have ca112 : A39 29 = A 29 := (hj38.1 29 (by decide) rfl).trans ca111
              have ca113 : A42 29 = A 29 := (hf44.1 29 (by decide) rfl).trans ca112
              have ca114 : A46 29 = A 29 := by rw [hA46]; exact ca113
              have ca115 : A47 29 = A 29 := (hf49.1 29 (by decide) rfl).trans ca114
              have ca116 : A51 29 = A 29 := by rw [hA51]; exact ca115
              have ca117 : A76 29 = A 29 := (hj75.1 29 (by decide) rfl).trans ca116
              have ca118 : A80 29 = A 29 := by rw [hA80]; exact ca117
              have hc102 : CI A98 := CI.inc hc81 hIc (g29.trans (by rw [e_A80_47, show z97 + 1 = A80 29 (A 0 47).toNat + 1 by rw [ca110]; omega])) (by rw [hA98]; rfl) (by rw [hA98]; rfl) (by rw [hA98]; rfl) (by rw [hA98]; rfl) (by rw [hA98]; rfl) (by rw [show 6 * A80 0 47 + A80 29 (A80 0 47).toNat = 6 * (A 0 47) + z15 by rw [ca118, e_A80_47]; omega, g32, up_same]; omega) gd2
              have e_A98_4 : A98 0 4 = (A76 0 4) := by rw [hA98]; exact e_A80_4
              have e_A98_5 : A98 0 5 = (A76 0 5) := by rw [hA98]; exact e_A80_5
              have e_A98_8 : A98 0 8 = (A76 0 8) := by rw [hA98]; exact e_A80_8
              exact RET _ _ _ _ _ ⟨hk5 _ (u_d_X12_barring_5 ⟨gI79.out, ⟨A80, hA80, (Or.inr ⟨c96, ⟨z97, gz97.out, ⟨A98, hA98, rfl⟩⟩⟩)⟩⟩), hI, fr_def hA98 (fr.st (fr_def hA80 (fr.st (fr.trans (fr_def hA51 (fr.st (fr.trans (fr_def hA46 (fr.st (fr.trans (fr.trans (fr.trans (fr.rf) hf12 rfl rfl) hj38 rfl rfl) hf44 rfl rfl) (by decide) rfl)) hf49 rfl rfl) (by decide) rfl)) hj75 rfl rfl) (by decide) rfl)) (by decide) rfl), hc102, Hd.mk (fun h0 => ⟨(CB.fr (CB.fr (f77.out (by omega)).2.1 (fr_def hA80 (fr.st (fr.rf (M := [32]) (N := [])) (by decide) rfl)) rfl rfl) (fr_def hA98 (fr.st (fr.rf (M := [29]) (N := [])) (by decide) rfl)) rfl rfl), by have g := (f77.out (by omega)).2.2; omega⟩)⟩ hP hS dX12_barring_186
          refine lv_if_ne (tgt := 156) hx hb dX12_barring_148 (by decide) (fun c63 => ?_) (fun c63 => ?_)
          · have c63 : ¬ (A47 0 8) = 0 := mt (i_eq0 (rb r_A47_0_8 (by decide) (by decide))).mpr c63
            have e_A51_4 : A51 0 4 = (A47 0 4) := by rw [hA51]; exact rfl
            exact J156_64 _ _ _ _ (by exact Hd.mk (fun h => absurd h (by omega))) hc52 (fun uq hq => hk4 _ (u_d_X12_barring_4 ⟨gI40.out, ⟨z41, A42, ghw43, ⟨A46, hA46, ⟨A47, ghw48, ⟨A51, hA51, (Or.inl ⟨c63, hq⟩)⟩⟩⟩⟩⟩)) hI (fr.rf) hP hS (lv_sub hl [0, 1, 2] rfl)
          · have c63 : (A47 0 8) = 0 := (i_eq0 (rb r_A47_0_8 (by decide) (by decide))).mp c63
            refine lv_aload_n hx hb dX12_barring_151 rfl (lv_at hl 2 rfl) ?_
            refine lv_iconst (v := iI 1) hx hb dX12_barring_152 (by decide +kernel) ?_
            have e_A51_46 : A51 0 46 = (A 0 46) := by rw [hA51]; exact e_A47_46
            have e_A51_47 : A51 0 47 = (A 0 47) := by rw [hA51]; exact e_A47_47
            have e_A51_4 : A51 0 4 = (A47 0 4) := by rw [hA51]; exact rfl
            have e_A51_3 : A51 0 3 = (A47 0 3) := by rw [hA51]; exact rfl
            have e_A51_5 : A51 0 5 = (A47 0 5) := by rw [hA51]; exact rfl
            have e_A51_7 : A51 0 7 = (A47 0 7) := by rw [hA51]; exact rfl
            have e_A10_53 : A10 0 53 = (A 0 53) := (hf12.2 53 rfl)
            have e_A39_53 : A39 0 53 = (A 0 53) := (hj38.2 53 rfl).trans e_A10_53
            have e_A42_53 : A42 0 53 = (A 0 53) := (hf44.2 53 rfl).trans e_A39_53
            have e_A46_53 : A46 0 53 = (A 0 53) := by rw [hA46]; exact e_A42_53
            have e_A47_53 : A47 0 53 = (A 0 53) := (hf49.2 53 rfl).trans e_A46_53
            have e_A51_53 : A51 0 53 = (A 0 53) := by rw [hA51]; exact e_A47_53
            have e_A10_54 : A10 0 54 = (A 0 54) := (hf12.2 54 rfl)
            have e_A39_54 : A39 0 54 = (A 0 54) := (hj38.2 54 rfl).trans e_A10_54
            have e_A42_54 : A42 0 54 = (A 0 54) := (hf44.2 54 rfl).trans e_A39_54
            have e_A46_54 : A46 0 54 = (A 0 54) := by rw [hA46]; exact e_A42_54
            have e_A47_54 : A47 0 54 = (A 0 54) := (hf49.2 54 rfl).trans e_A46_54
            have e_A51_54 : A51 0 54 = (A 0 54) := by rw [hA51]; exact e_A47_54
            have e_A10_56 : A10 0 56 = (A 0 56) := (hf12.2 56 rfl)
            have e_A39_56 : A39 0 56 = (A 0 56) := (hj38.2 56 rfl).trans e_A10_56
            have e_A42_56 : A42 0 56 = (A 0 56) := (hf44.2 56 rfl).trans e_A39_56
            have e_A46_56 : A46 0 56 = (A 0 56) := by rw [hA46]; exact e_A42_56
            have e_A47_56 : A47 0 56 = (A 0 56) := (hf49.2 56 rfl).trans e_A46_56
            have e_A51_56 : A51 0 56 = (A 0 56) := by rw [hA51]; exact e_A47_56
            have r_A47_0_3 : (0 : Int) ≤ (A47 0 3) ∧ (A47 0 3) ≤ 3 := by rw [← e_A51_3]; exact hI 0 3
            have r_A47_0_5 : (0 : Int) ≤ (A47 0 5) ∧ (A47 0 5) ≤ 1600 := by rw [← e_A51_5]; exact hI 0 5
            have r_A47_0_7 : (-9223372036854775808 : Int) ≤ (A47 0 7) ∧ (A47 0 7) ≤ 9223372036854775807 := by rw [← e_A51_7]; exact hI 0 7
            have r_A_0_53 : (0 : Int) ≤ (A 0 53) ∧ (A 0 53) ≤ 20 := by rw [← e_A51_53]; exact hI 0 53
            have r_A_0_54 : (0 : Int) ≤ (A 0 54) ∧ (A 0 54) ≤ 8 := by rw [← e_A51_54]; exact hI 0 54
            have r_A_0_56 : (0 : Int) ≤ (A 0 56) ∧ (A 0 56) ≤ 500 := by rw [← e_A51_56]; exact hI 0 56
            have ca65 : A10 29 = A 29 := (hf12.1 29 (by decide) rfl)
            have ca66 : A39 29 = A 29 := (hj38.1 29 (by decide) rfl).trans ca65
            have ca67 : A42 29 = A 29 := (hf44.1 29 (by decide) rfl).trans ca66
            have ca68 : A46 29 = A 29 := by rw [hA46]; exact ca67
            have ca69 : A47 29 = A 29 := (hf49.1 29 (by decide) rfl).trans ca68
            have ca70 : A51 29 = A 29 := by rw [hA51]; exact ca69
            refine x_callv (As := [.int (iI 1)]) (rest := []) ⟨hx, hb, hml, hown, hts⟩ (mb_X12_reads l dC dI cB cI cJ cZ cQ q _ 1 hI ⟨by decide, by decide⟩ (by exact (CB.fr hc50 (fr_def hA51 (fr.st (fr.rf (M := [31]) (N := [])) (by decide) rfl)) rfl rfl)) (by rw [show 6 * A51 0 47 + A51 29 (A51 0 47).toNat = 6 * (A 0 47) + z15 by rw [ca70, e_A51_47]; omega, g31, up_same]; omega) hc52) (cwV 1 hts (goodV (wl_in_3 _ (List.mem_of_getElem? (i := 29) rfl)) (wl_in_3 _ (List.mem_of_getElem? (i := 30) rfl)) (wl_in_3 _ (List.mem_of_getElem? (i := 31) rfl)) (wl_in_0 _ (List.mem_of_getElem? (i := 8) rfl)) (wl_in_2 _ (List.mem_of_getElem? (i := 13) rfl))) rfl rfl rfl (by decide +kernel) ⟨Nat.le_of_ble_eq_true rfl, Nat.le_of_ble_eq_true rfl⟩) hK hDD hA0 hP hS 0 12 wm0 rfl rfl hl.1 (Nat.le_of_ble_eq_true rfl) dX12_barring_153 (fun A71 H locs hw72 hP hS => ?_)
            have ghw72 : q_X12_reads 1 A51 A71 := hw72
            obtain ⟨_, hI, hf73, hw72⟩ := hw72
            obtain ⟨hc74, hw72⟩ := hw72
            have r_A71_0_4 : (0 : Int) ≤ (A71 0 4) ∧ (A71 0 4) ≤ 1600 := hI 0 4
            have r_A71_0_8 : (0 : Int) ≤ (A71 0 8) ∧ (A71 0 8) ≤ 5 := hI 0 8
            have r_A71_0_46 : (0 : Int) ≤ (A71 0 46) ∧ (A71 0 46) ≤ 1600 := hI 0 46
            have e_A71_47 : A71 0 47 = (A 0 47) := (hf73.2 47 rfl).trans e_A51_47
            exact J156_64 _ _ _ _ (by exact Hd.mk (fun h0 => by have g := hw72.out (by omega); exact ⟨g.1, g.2.1, by have := g.2.2; omega⟩)) hc74 (fun uq hq => hk4 _ (u_d_X12_barring_4 ⟨gI40.out, ⟨z41, A42, ghw43, ⟨A46, hA46, ⟨A47, ghw48, ⟨A51, hA51, (Or.inr ⟨c63, ⟨A71, ghw72, hq⟩⟩)⟩⟩⟩⟩⟩)) hI (fr.trans (fr.rf) hf73 rfl rfl) hP hS (lv_sub hl [0, 1, 2] rfl)
        refine lv_icmp_eq (tgt := 116) hx hb dX12_barring_87 (by decide) (fun c31 => ?_) (fun c31 => ?_)
        · have c31 : z28 = (-1) := (i_eq (rb f30 (by decide) (by decide)) ⟨by decide, by decide⟩).mp c31
          exact J116_32 _ _ _ _ (fun uq hq => hk3 _ (u_d_X12_barring_3 ⟨f30, (Or.inl ⟨c31, hq⟩)⟩)) hI (fr.rf) hP hS (lv_sub hl [0, 1, 2] rfl)
        · have c31 : ¬ z28 = (-1) := mt (i_eq (rb f30 (by decide) (by decide)) ⟨by decide, by decide⟩).mpr c31
          refine lv_aload_n hx hb dX12_barring_90 rfl (lv_at hl 2 rfl) ?_
          refine va_get (D := (dC, dI)) (ci := 12) (v := .ref (q 8)) (C := RX12) (T := TX12) (N := 85) hx hb hts hiX12 hown hK hP 0 wm0 rfl 19 (by decide) (hts _ (List.mem_cons_of_mem _ (wl_in_2 _ (List.mem_of_getElem? (i := 41) rfl)))) (fun _ h9 => h9) rfl dX12_barring_91 ?_
          refine lv_bipush (v := iI 10) hx hb dX12_barring_94 (by decide +kernel) ?_
          refine lv_aload_n hx hb dX12_barring_96 rfl (lv_at hl 2 rfl) ?_
          refine va_get (D := (dC, dI)) (ci := 12) (v := .int (iI (A10 0 47))) (C := RX12) (T := TX12) (N := 85) hx hb hts hiX12 hown hK hP 0 wm0 rfl 47 (by decide) (hts _ (List.mem_cons_of_mem _ (wl_in_1 _ (List.mem_of_getElem? (i := 12) rfl)))) (fun _ h9 => h9) rfl dX12_barring_97 ?_
          refine tp_i (y := iI (A 0 47)) (congrArg iI e_A10_47) ?_
          refine x_mulv (v := 10 * (A 0 47)) hx hb dX12_barring_100 (by omega) ?_
          refine lv_iload_n hx hb dX12_barring_101 rfl (lv_at hl 0 rfl) ?_
          refine x_addv (v := 10 * (A 0 47) + z28) hx hb dX12_barring_102 (by omega) ?_
          have a_A10_8 : A10 8 = A 8 := (hf12.1 8 (by decide) rfl)
          refine x_zald hx hb hK hP 8 3 wm8 rfl (by omega) (by decide) dX12_barring_103 (fun z33 hz33 => ?_)
          have rz33 : (0 : Int) ≤ z33 ∧ z33 ≤ 1 := by rw [hz33]; exact hI 8 _
          have gz33 := Hd.mk hz33
          have hz33 : z33 = A 8 (10 * (A 0 47) + z28).toNat := hz33.trans (congrFun a_A10_8 _)
          refine lv_if_eq (tgt := 116) hx hb dX12_barring_104 (by decide) (fun c34 => ?_) (fun c34 => ?_)
          · have c34 : z33 = 0 := (i_eq0 (rb rz33 (by decide) (by decide))).mp c34
            exact J116_32 _ _ _ _ (fun uq hq => hk3 _ (u_d_X12_barring_3 ⟨f30, (Or.inr ⟨c31, ⟨z33, gz33.out, (Or.inl ⟨c34, hq⟩)⟩⟩)⟩)) hI (fr.rf) hP hS (lv_sub hl [0, 1, 2] rfl)
          · have c34 : ¬ z33 = 0 := mt (i_eq0 (rb rz33 (by decide) (by decide))).mpr c34
            refine lv_aload_n hx hb dX12_barring_107 rfl (lv_at hl 2 rfl) ?_
            refine lv_iconst (v := iI 3) hx hb dX12_barring_108 (by decide +kernel) ?_
            refine lv_aload_n hx hb dX12_barring_109 rfl (lv_at hl 2 rfl) ?_
            refine va_get (D := (dC, dI)) (ci := 12) (v := .int (iI (A10 0 4))) (C := RX12) (T := TX12) (N := 85) hx hb hts hiX12 hown hK hP 0 wm0 rfl 4 (by decide) (hts _ (List.mem_cons_of_mem _ (wl_in_0 _ (List.mem_of_getElem? (i := 23) rfl)))) (fun _ h9 => h9) rfl dX12_barring_110 ?_
            refine x_callv (As := [.int (iI 3), .int (iI (A10 0 4))]) (rest := []) ⟨hx, hb, hml, hown, hts⟩ (mc_X12_blame l dC dI cB cI cJ cZ cQ q _ 3 (A10 0 4) hI ⟨by decide, by decide⟩ r_A10_0_4) (cwV 2 hts (goodV (wl_in_0 _ (List.mem_of_getElem? (i := 31) rfl)) (wl_in_0 _ (List.mem_of_getElem? (i := 32) rfl)) (wl_in_0 _ (List.mem_of_getElem? (i := 33) rfl)) (wl_in_0 _ (List.mem_of_getElem? (i := 8) rfl)) (wl_in_0 _ (List.mem_of_getElem? (i := 15) rfl))) rfl rfl rfl (by decide +kernel) ⟨Nat.le_of_ble_eq_true rfl, Nat.le_of_ble_eq_true rfl⟩) hK hDD hA0 hP hS 0 12 wm0 rfl rfl hl.1 (Nat.le_of_ble_eq_true rfl) dX12_barring_113 (fun A35 H locs hw36 hP hS => ?_)
            have ghw36 : q_X12_blame 3 (A10 0 4) A10 A35 := hw36
            obtain ⟨_, hI, hf37, hw36⟩ := hw36
            have r_A35_0_8 : (0 : Int) ≤ (A35 0 8) ∧ (A35 0 8) ≤ 5 := hI 0 8
            exact J116_32 _ _ _ _ (fun uq hq => hk3 _ (u_d_X12_barring_3 ⟨f30, (Or.inr ⟨c31, ⟨z33, gz33.out, (Or.inr ⟨c34, ⟨A35, ghw36, hq⟩⟩)⟩⟩)⟩)) hI (fr.trans (fr.rf) hf37 rfl rfl) hP hS (lv_sub hl [0, 1, 2] rfl)
      have J83_17 : ∀ (H : Heap) (locs : List Loc) (ls : Array Slot), (∀ (u : St), (d_X12_barring_2 z15 A A10 u) → r_X12_barring A u) → va_P (dC, dI) vwCl (WM cI cJ cZ q A10) H → va_S AS s.heap H locs → lv_has ls 3 [(1, .int (iI (6 * (A 0 47) + z15))), (0, .ref (q 0))] → W p l e (headSpec ws_mb_X12_barring ({ frames := 5, cells := 0, slots := 0, locals := 113 } : Room)).room s m [.ref (q 0)].toArray below meth c H locs 0 0 Q (F0 m 83 ls []) := by
        intro H locs ls hk2 hP hS hl
        refine lv_iconst (v := iI (-1)) hx hb dX12_barring_83 (by decide +kernel) ?_
        exact J84_18 (-1) _ _ _ (by omega) (fun uq hq => hk2 _ (u_d_X12_barring_2 hq)) hP hS (lv_sub hl [0, 1] rfl)
      refine lv_if_ne (tgt := 83) hx hb dX12_barring_49 (by decide) (fun c16 => ?_) (fun c16 => ?_)
      · have c16 : ¬ (A10 0 8) = 0 := mt (i_eq0 (rb r_A10_0_8 (by decide) (by decide))).mpr c16
        exact J83_17 _ _ _ (fun uq hq => hk1 _ (u_d_X12_barring_1 ⟨f6, ⟨z9, A10, ghw11, (Or.inl ⟨c14, ⟨z15, gz15.out, (Or.inl ⟨c16, hq⟩)⟩⟩)⟩⟩)) hP hS (lv_sub hl [0, 1] rfl)
      · have c16 : (A10 0 8) = 0 := (i_eq0 (rb r_A10_0_8 (by decide) (by decide))).mp c16
        refine lv_aload_n hx hb dX12_barring_52 rfl (lv_at hl 1 rfl) ?_
        refine va_get (D := (dC, dI)) (ci := 12) (v := .int (iI (A10 0 3))) (C := RX12) (T := TX12) (N := 85) hx hb hts hiX12 hown hK hP 0 wm0 rfl 3 (by decide) (hts _ (List.mem_cons_of_mem _ (wl_in_0 _ (List.mem_of_getElem? (i := 24) rfl)))) (fun _ h9 => h9) rfl dX12_barring_53 ?_
        have r_A10_0_3 : (0 : Int) ≤ (A10 0 3) ∧ (A10 0 3) ≤ 3 := hI 0 3
        refine lv_iconst (v := iI 1) hx hb dX12_barring_56 (by decide +kernel) ?_
        refine lv_icmp_ne (tgt := 83) hx hb dX12_barring_57 (by decide) (fun c19 => ?_) (fun c19 => ?_)
        · have c19 : ¬ (A10 0 3) = 1 := mt (i_eq (rb r_A10_0_3 (by decide) (by decide)) ⟨by decide, by decide⟩).mpr c19
          exact J83_17 _ _ _ (fun uq hq => hk1 _ (u_d_X12_barring_1 ⟨f6, ⟨z9, A10, ghw11, (Or.inl ⟨c14, ⟨z15, gz15.out, (Or.inr ⟨c16, (Or.inl ⟨c19, hq⟩)⟩)⟩⟩)⟩⟩)) hP hS (lv_sub hl [0, 1] rfl)
        · have c19 : (A10 0 3) = 1 := (i_eq (rb r_A10_0_3 (by decide) (by decide)) ⟨by decide, by decide⟩).mp c19
          refine lv_aload_n hx hb dX12_barring_60 rfl (lv_at hl 1 rfl) ?_
          refine lv_aload_n hx hb dX12_barring_61 rfl (lv_at hl 1 rfl) ?_
          refine va_get (D := (dC, dI)) (ci := 12) (v := .long (jI (A10 0 7))) (C := RX12) (T := TX12) (N := 85) hx hb hts hiX12 hown hK hP 0 wm0 rfl 7 (by decide) (hts _ (List.mem_cons_of_mem _ (wl_in_0 _ (List.mem_of_getElem? (i := 26) rfl)))) (fun _ h9 => h9) rfl dX12_barring_62 ?_
          have r_A10_0_7 : (-9223372036854775808 : Int) ≤ (A10 0 7) ∧ (A10 0 7) ≤ 9223372036854775807 := hI 0 7
          refine x_calli (As := [.long (jI (A10 0 7))]) (rest := []) ⟨hx, hb, hml, hown, hts⟩ (mb_X12_isOwn l dC dI cB cI cJ cZ cQ q _ (A10 0 7) hI r_A10_0_7) (cwV 1 hts (goodV (wl_in_2 _ (List.mem_of_getElem? (i := 23) rfl)) (wl_in_2 _ (List.mem_of_getElem? (i := 24) rfl)) (wl_in_2 _ (List.mem_of_getElem? (i := 25) rfl)) (wl_in_0 _ (List.mem_of_getElem? (i := 8) rfl)) (wl_in_0 _ (List.mem_of_getElem? (i := 43) rfl))) rfl rfl rfl (by decide +kernel) ⟨Nat.le_of_ble_eq_true rfl, Nat.le_of_ble_eq_true rfl⟩) hK hDD hA0 hP hS 0 12 wm0 rfl rfl hl.1 (Nat.le_of_ble_eq_true rfl) dX12_barring_65 (fun z20 A21 H locs hw22 hP hS => ?_)
          obtain ⟨rfl, hw22⟩ := hw22
          have ghw22 : q_X12_isOwn (A10 0 7) A10 z20 := hw22
          have hw22 := hw22.2
          have rz20 : 0 ≤ z20 ∧ z20 ≤ 1 := hw22.1
          refine lv_if_ne (tgt := 83) hx hb dX12_barring_68 (by decide) (fun c23 => ?_) (fun c23 => ?_)
          · have c23 : ¬ z20 = 0 := mt (i_eq0 (rb rz20 (by decide) (by decide))).mpr c23
            exact J83_17 _ _ _ (fun uq hq => hk1 _ (u_d_X12_barring_1 ⟨f6, ⟨z9, A10, ghw11, (Or.inl ⟨c14, ⟨z15, gz15.out, (Or.inr ⟨c16, (Or.inr ⟨c19, ⟨z20, ghw22, (Or.inl ⟨c23, hq⟩)⟩⟩)⟩)⟩⟩)⟩⟩)) hP hS (lv_sub hl [0, 1] rfl)
          · have c23 : z20 = 0 := (i_eq0 (rb rz20 (by decide) (by decide))).mp c23
            refine lv_aload_n hx hb dX12_barring_71 rfl (lv_at hl 1 rfl) ?_
            refine lv_iconst (v := iI 1) hx hb dX12_barring_72 (by decide +kernel) ?_
            refine lv_aload_n hx hb dX12_barring_73 rfl (lv_at hl 1 rfl) ?_
            refine va_get (D := (dC, dI)) (ci := 12) (v := .long (jI (A10 0 7))) (C := RX12) (T := TX12) (N := 85) hx hb hts hiX12 hown hK hP 0 wm0 rfl 7 (by decide) (hts _ (List.mem_cons_of_mem _ (wl_in_0 _ (List.mem_of_getElem? (i := 26) rfl)))) (fun _ h9 => h9) rfl dX12_barring_74 ?_
            refine x_calli (As := [.int (iI 1), .long (jI (A10 0 7))]) (rest := []) ⟨hx, hb, hml, hown, hts⟩ (mb_X12_named_1 l dC dI cB cI cJ cZ cQ q _ 1 (A10 0 7) hI ⟨by decide, by decide⟩ r_A10_0_7) (cwV 2 hts (goodV (wl_in_2 _ (List.mem_of_getElem? (i := 26) rfl)) (wl_in_2 _ (List.mem_of_getElem? (i := 27) rfl)) (wl_in_2 _ (List.mem_of_getElem? (i := 28) rfl)) (wl_in_0 _ (List.mem_of_getElem? (i := 8) rfl)) (wl_in_1 _ (List.mem_of_getElem? (i := 10) rfl))) rfl rfl rfl (by decide +kernel) ⟨Nat.le_of_ble_eq_true rfl, Nat.le_of_ble_eq_true rfl⟩) hK hDD hA0 hP hS 0 12 wm0 rfl rfl hl.1 (Nat.le_of_ble_eq_true rfl) dX12_barring_77 (fun z24 A25 H locs hw26 hP hS => ?_)
            obtain ⟨rfl, hw26⟩ := hw26
            have ghw26 : q_X12_named_1 1 (A10 0 7) A10 z24 := hw26
            have hw26 := hw26.2
            have a_A10_5 : A10 5 = A 5 := (hf12.1 5 (by decide) rfl)
            have a_A10_4 : A10 4 = A 4 := (hf12.1 4 (by decide) rfl)
            rw [a_A10_5, a_A10_4, e_A10_47] at hw26
            refine lv_goto (tgt := 84) hx hb dX12_barring_80 (by decide) ?_
            exact J84_18 z24 _ _ _ (by omega) (fun uq hq => hk1 _ (u_d_X12_barring_1 ⟨f6, ⟨z9, A10, ghw11, (Or.inl ⟨c14, ⟨z15, gz15.out, (Or.inr ⟨c16, (Or.inr ⟨c19, ⟨z20, ghw22, (Or.inr ⟨c23, ⟨z24, ghw26, hq⟩⟩)⟩⟩)⟩)⟩⟩)⟩⟩)) hP hS (lv_sub hl [0, 1] rfl)
    · have c14 : z9 = 0 := (i_eq0 (rb rz9 (by decide) (by decide))).mp c14
      have r_A10_0_5 : (0 : Int) ≤ (A10 0 5) ∧ (A10 0 5) ≤ 1600 := hI 0 5
      exact RET _ _ _ _ _ ⟨hk1 _ (u_d_X12_barring_1 ⟨f6, ⟨z9, A10, ghw11, (Or.inr ⟨c14, rfl⟩)⟩⟩), hI, fr.trans (fr.rf) hf12 rfl rfl, (CI.fr hcCI hf12 rfl rfl), Hd.mk (fun h => absurd h (by omega))⟩ hP hS dX12_barring_26
  refine lv_icmp_ne (tgt := 19) hx hb dX12_barring_12 (by decide) (fun c2 => ?_) (fun c2 => ?_)
  · have c2 : ¬ z1 = 6 := mt (i_eq (rb rz1 (by decide) (by decide)) ⟨by decide, by decide⟩).mpr c2
    refine lv_iconst (v := iI 0) hx hb dX12_barring_19 (by decide +kernel) ?_
    exact J20_3 0 _ _ _ (by omega) (by omega) (by exact Hd.mk (by  omega)) (fun uq hq => (u_r_X12_barring ⟨z1, gz1.out, (Or.inl ⟨c2, hq⟩)⟩)) hP hS (lv_sub hl [0] rfl)
  · have c2 : z1 = 6 := (i_eq (rb rz1 (by decide) (by decide)) ⟨by decide, by decide⟩).mp c2
    refine lv_iconst (v := iI 1) hx hb dX12_barring_15 (by decide +kernel) ?_
    refine lv_goto (tgt := 20) hx hb dX12_barring_16 (by decide) ?_
    exact J20_3 1 _ _ _ (by omega) (by omega) (by exact Hd.mk (by  omega)) (fun uq hq => (u_r_X12_barring ⟨z1, gz1.out, (Or.inr ⟨c2, hq⟩)⟩)) hP hS (lv_sub hl [0] rfl)
theorem dX12_statement_0 : decode cX12_statement 0 = .ok (.aload_n 0, 1) := by decide +kernel
theorem dX12_statement_1 : decode cX12_statement 1 = .ok (.ldc2_w 296, 3) := by decide +kernel
theorem dX12_statement_4 : decode cX12_statement 4 = .ok (.invokevirtual 368, 3) := by decide +kernel
theorem dX12_statement_7 : decode cX12_statement 7 = .ok (.ifCond .eq 10, 3) := by decide +kernel
theorem dX12_statement_10 : decode cX12_statement 10 = .ok (.aload_n 0, 1) := by decide +kernel
theorem dX12_statement_11 : decode cX12_statement 11 = .ok (.invokevirtual 427, 3) := by decide +kernel
theorem dX12_statement_14 : decode cX12_statement 14 = .ok (.goto 94, 3) := by decide +kernel
theorem dX12_statement_17 : decode cX12_statement 17 = .ok (.aload_n 0, 1) := by decide +kernel
theorem dX12_statement_18 : decode cX12_statement 18 = .ok (.ldc2_w 298, 3) := by decide +kernel
theorem dX12_statement_21 : decode cX12_statement 21 = .ok (.invokevirtual 368, 3) := by decide +kernel
theorem dX12_statement_24 : decode cX12_statement 24 = .ok (.ifCond .eq 11, 3) := by decide +kernel
theorem dX12_statement_27 : decode cX12_statement 27 = .ok (.aload_n 0, 1) := by decide +kernel
theorem dX12_statement_28 : decode cX12_statement 28 = .ok (.iconst 0, 1) := by decide +kernel
theorem dX12_statement_29 : decode cX12_statement 29 = .ok (.invokevirtual 430, 3) := by decide +kernel
theorem dX12_statement_32 : decode cX12_statement 32 = .ok (.goto 76, 3) := by decide +kernel
theorem dX12_statement_35 : decode cX12_statement 35 = .ok (.aload_n 0, 1) := by decide +kernel
theorem dX12_statement_36 : decode cX12_statement 36 = .ok (.ldc2_w 300, 3) := by decide +kernel
theorem dX12_statement_39 : decode cX12_statement 39 = .ok (.invokevirtual 368, 3) := by decide +kernel
theorem dX12_statement_42 : decode cX12_statement 42 = .ok (.ifCond .eq 11, 3) := by decide +kernel
theorem dX12_statement_45 : decode cX12_statement 45 = .ok (.aload_n 0, 1) := by decide +kernel
theorem dX12_statement_46 : decode cX12_statement 46 = .ok (.iconst 1, 1) := by decide +kernel
theorem dX12_statement_47 : decode cX12_statement 47 = .ok (.invokevirtual 430, 3) := by decide +kernel
theorem dX12_statement_50 : decode cX12_statement 50 = .ok (.goto 58, 3) := by decide +kernel
theorem dX12_statement_53 : decode cX12_statement 53 = .ok (.aload_n 0, 1) := by decide +kernel
theorem dX12_statement_54 : decode cX12_statement 54 = .ok (.ldc2_w 304, 3) := by decide +kernel
theorem dX12_statement_57 : decode cX12_statement 57 = .ok (.invokevirtual 368, 3) := by decide +kernel
theorem dX12_statement_60 : decode cX12_statement 60 = .ok (.ifCond .eq 10, 3) := by decide +kernel
theorem dX12_statement_63 : decode cX12_statement 63 = .ok (.aload_n 0, 1) := by decide +kernel
theorem dX12_statement_64 : decode cX12_statement 64 = .ok (.invokevirtual 433, 3) := by decide +kernel
theorem dX12_statement_67 : decode cX12_statement 67 = .ok (.goto 41, 3) := by decide +kernel
theorem dX12_statement_70 : decode cX12_statement 70 = .ok (.aload_n 0, 1) := by decide +kernel
theorem dX12_statement_71 : decode cX12_statement 71 = .ok (.ldc2_w 308, 3) := by decide +kernel
theorem dX12_statement_74 : decode cX12_statement 74 = .ok (.invokevirtual 368, 3) := by decide +kernel
theorem dX12_statement_77 : decode cX12_statement 77 = .ok (.ifCond .eq 10, 3) := by decide +kernel
theorem dX12_statement_80 : decode cX12_statement 80 = .ok (.aload_n 0, 1) := by decide +kernel
theorem dX12_statement_81 : decode cX12_statement 81 = .ok (.invokevirtual 436, 3) := by decide +kernel
theorem dX12_statement_84 : decode cX12_statement 84 = .ok (.goto 24, 3) := by decide +kernel
theorem dX12_statement_87 : decode cX12_statement 87 = .ok (.aload_n 0, 1) := by decide +kernel
theorem dX12_statement_88 : decode cX12_statement 88 = .ok (.ldc2_w 310, 3) := by decide +kernel
theorem dX12_statement_91 : decode cX12_statement 91 = .ok (.invokevirtual 368, 3) := by decide +kernel
theorem dX12_statement_94 : decode cX12_statement 94 = .ok (.ifCond .eq 10, 3) := by decide +kernel
theorem dX12_statement_97 : decode cX12_statement 97 = .ok (.aload_n 0, 1) := by decide +kernel
theorem dX12_statement_98 : decode cX12_statement 98 = .ok (.invokevirtual 439, 3) := by decide +kernel
theorem dX12_statement_101 : decode cX12_statement 101 = .ok (.goto 7, 3) := by decide +kernel
theorem dX12_statement_104 : decode cX12_statement 104 = .ok (.aload_n 0, 1) := by decide +kernel
theorem dX12_statement_105 : decode cX12_statement 105 = .ok (.invokevirtual 442, 3) := by decide +kernel
theorem dX12_statement_108 : decode cX12_statement 108 = .ok (.aload_n 0, 1) := by decide +kernel
theorem dX12_statement_109 : decode cX12_statement 109 = .ok (.getfield 36, 3) := by decide +kernel
theorem dX12_statement_112 : decode cX12_statement 112 = .ok (.ifCond .ne 9, 3) := by decide +kernel
theorem dX12_statement_115 : decode cX12_statement 115 = .ok (.aload_n 0, 1) := by decide +kernel
theorem dX12_statement_116 : decode cX12_statement 116 = .ok (.bipush 59, 2) := by decide +kernel
theorem dX12_statement_118 : decode cX12_statement 118 = .ok (.invokevirtual 445, 3) := by decide +kernel
theorem dX12_statement_121 : decode cX12_statement 121 = .ok (.return_, 1) := by decide +kernel
theorem dX12_others_0 : decode cX12_others 0 = .ok (.aload_n 0, 1) := by decide +kernel
theorem dX12_others_1 : decode cX12_others 1 = .ok (.ldc2_w 312, 3) := by decide +kernel
theorem dX12_others_4 : decode cX12_others 4 = .ok (.invokevirtual 368, 3) := by decide +kernel
theorem dX12_others_7 : decode cX12_others 7 = .ok (.ifCond .eq 10, 3) := by decide +kernel
theorem dX12_others_10 : decode cX12_others 10 = .ok (.aload_n 0, 1) := by decide +kernel
theorem dX12_others_11 : decode cX12_others 11 = .ok (.invokevirtual 447, 3) := by decide +kernel
theorem dX12_others_14 : decode cX12_others 14 = .ok (.goto 97, 3) := by decide +kernel
theorem dX12_others_17 : decode cX12_others 17 = .ok (.aload_n 0, 1) := by decide +kernel
theorem dX12_others_18 : decode cX12_others 18 = .ok (.ldc2_w 316, 3) := by decide +kernel
theorem dX12_others_21 : decode cX12_others 21 = .ok (.invokevirtual 368, 3) := by decide +kernel
theorem dX12_others_24 : decode cX12_others 24 = .ok (.ifCond .eq 10, 3) := by decide +kernel
theorem dX12_others_27 : decode cX12_others 27 = .ok (.aload_n 0, 1) := by decide +kernel
theorem dX12_others_28 : decode cX12_others 28 = .ok (.invokevirtual 450, 3) := by decide +kernel
theorem dX12_others_31 : decode cX12_others 31 = .ok (.goto 80, 3) := by decide +kernel
theorem dX12_others_34 : decode cX12_others 34 = .ok (.aload_n 0, 1) := by decide +kernel
theorem dX12_others_35 : decode cX12_others 35 = .ok (.ldc2_w 318, 3) := by decide +kernel
theorem dX12_others_38 : decode cX12_others 38 = .ok (.invokevirtual 368, 3) := by decide +kernel
theorem dX12_others_41 : decode cX12_others 41 = .ok (.ifCond .eq 10, 3) := by decide +kernel
theorem dX12_others_44 : decode cX12_others 44 = .ok (.aload_n 0, 1) := by decide +kernel
theorem dX12_others_45 : decode cX12_others 45 = .ok (.invokevirtual 453, 3) := by decide +kernel
theorem dX12_others_48 : decode cX12_others 48 = .ok (.goto 63, 3) := by decide +kernel
theorem dX12_others_51 : decode cX12_others 51 = .ok (.aload_n 0, 1) := by decide +kernel
theorem dX12_others_52 : decode cX12_others 52 = .ok (.ldc2_w 320, 3) := by decide +kernel
theorem dX12_others_55 : decode cX12_others 55 = .ok (.invokevirtual 368, 3) := by decide +kernel
theorem dX12_others_58 : decode cX12_others 58 = .ok (.ifCond .eq 10, 3) := by decide +kernel
theorem dX12_others_61 : decode cX12_others 61 = .ok (.aload_n 0, 1) := by decide +kernel
theorem dX12_others_62 : decode cX12_others 62 = .ok (.invokevirtual 456, 3) := by decide +kernel
theorem dX12_others_65 : decode cX12_others 65 = .ok (.goto 46, 3) := by decide +kernel
theorem dX12_others_68 : decode cX12_others 68 = .ok (.aload_n 0, 1) := by decide +kernel
theorem dX12_others_69 : decode cX12_others 69 = .ok (.ldc2_w 322, 3) := by decide +kernel
theorem dX12_others_72 : decode cX12_others 72 = .ok (.invokevirtual 368, 3) := by decide +kernel
theorem dX12_others_75 : decode cX12_others 75 = .ok (.ifCond .eq 10, 3) := by decide +kernel
theorem dX12_others_78 : decode cX12_others 78 = .ok (.aload_n 0, 1) := by decide +kernel
theorem dX12_others_79 : decode cX12_others 79 = .ok (.invokevirtual 459, 3) := by decide +kernel
theorem dX12_others_82 : decode cX12_others 82 = .ok (.goto 29, 3) := by decide +kernel
theorem dX12_others_85 : decode cX12_others 85 = .ok (.aload_n 0, 1) := by decide +kernel
theorem dX12_others_86 : decode cX12_others 86 = .ok (.ldc2_w 324, 3) := by decide +kernel
theorem dX12_others_89 : decode cX12_others 89 = .ok (.invokevirtual 368, 3) := by decide +kernel
theorem dX12_others_92 : decode cX12_others 92 = .ok (.ifCond .eq 10, 3) := by decide +kernel
theorem dX12_others_95 : decode cX12_others 95 = .ok (.aload_n 0, 1) := by decide +kernel
theorem dX12_others_96 : decode cX12_others 96 = .ok (.invokevirtual 462, 3) := by decide +kernel
theorem dX12_others_99 : decode cX12_others 99 = .ok (.goto 12, 3) := by decide +kernel
theorem dX12_others_102 : decode cX12_others 102 = .ok (.aload_n 0, 1) := by decide +kernel
theorem dX12_others_103 : decode cX12_others 103 = .ok (.iconst 1, 1) := by decide +kernel
theorem dX12_others_104 : decode cX12_others 104 = .ok (.aload_n 0, 1) := by decide +kernel
theorem dX12_others_105 : decode cX12_others 105 = .ok (.getfield 23, 3) := by decide +kernel
theorem dX12_others_108 : decode cX12_others 108 = .ok (.invokevirtual 286, 3) := by decide +kernel
theorem dX12_others_111 : decode cX12_others 111 = .ok (.return_, 1) := by decide +kernel
