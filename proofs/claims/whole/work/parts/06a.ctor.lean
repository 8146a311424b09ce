theorem ct_f : ∀ b : Nat, b < 13 → 5 ≤ b → (¬ nI b * zI 4 < 0) ∧ (nI b * zI 4).toNatClampNeg = 4 * b ∧ (¬ nI b < 0) ∧ (nI b).toNatClampNeg = b ∧ (¬ (nI b - zI 3) * zI 4 < 0) ∧ ((nI b - zI 3) * zI 4).toNatClampNeg = 4 * (b - 3) := by decide +kernel
theorem in_X0_init_X0 : ∀ w ∈ u_ws RX0 TX0 4, w ∈ wsX0_init := fun _ h => List.mem_cons_of_mem _ (List.mem_append_right _ h)
abbrev rmX0_init : Room := { frames := 1, cells := 3, slots := 9, locals := 12 }
set_option maxHeartbeats 4000000 in
set_option maxRecDepth 100000 in
theorem kX0_init (l : Launch) (D : va_G) (h0 sz : Nat) : Met l yX0_init wsX0_init rmX0_init (va_Pc [.ref h0] (fun U => U.heap.size = sz ∧ XNW U ∧ va_P D vwCl [(h0, .inr (0, [.null, .null, .null, .int 0]))] U.heap ∧ va_K D vwCl [] U ∧ va_D (fun _ => True) [(h0, .inr (0, [.null, .null, .null, .int 0]))])) (va_Qv (fun _ : Unit => True) (fun _ t => ∃ (q1 q2 q3 : Nat) (e1 e2 e3 : ClassId), va_P D vwCl [(h0, .inr (0, [.ref q1, .ref q2, .ref q3, .int 0])), (q1, .inl (e1, 3, .inl (fun _ => 0))), (q2, .inl (e2, 3, .inl (fun _ => 0))), (q3, .inl (e3, 3, .inl (fun _ => 0)))] t.heap ∧ va_K D vwCl [(e1, .int), (e2, .int), (e3, .int)] t ∧ va_D (va_A [(h0, .inr (0, [.null, .null, .null, .int 0]))] sz) [(h0, .inr (0, [.ref q1, .ref q2, .ref q3, .int 0])), (q1, .inl (e1, 3, .inl (fun _ => 0))), (q2, .inl (e2, 3, .inl (fun _ => 0))), (q3, .inl (e3, 3, .inl (fun _ => 0)))]) (va_A [(h0, .inr (0, [.null, .null, .null, .int 0]))] sz)) 3 9 (va_A [(h0, .inr (0, [.null, .null, .null, .int 0]))] sz) := by
  refine Met.ofW (cc := cX0_init) (maxL := 1) (ret := none) (by decide) rfl ?_
  intro p e s m args below meth c s₁ B hml hv
  obtain ⟨rfl, hsz, hN, hP, hK, hD0⟩ := hv
  have hx := B.exec
  have hb := B.bytes
  have hr := B.returns
  have hts := atoms_spec (ws := wsX0_init) B.pre
  have hown : s.vm.findClass RX0 = some m.cls := findClass_of_methodNamed B.named
  have hlocks := B.notSynchronized
  have hin : meth.name = "<init>" := (name_of_methodNamed B.named B.method).1
  subst hsz
  have hD := hD0.self (sz := s.heap.size)
  generalize hAe : va_A [(h0, .inr (0, [.null, .null, .null, .int 0]))] s.heap.size = A at hD ⊢
  have hA : ∀ q : Nat, s.heap.size ≤ q → A q := fun q h => by rw [← hAe]; exact Or.inr h
  have hS : va_S A s.heap s.heap [] := va_S.rf
  have hP : va_P D vwCl [(h0, .inr (0, [.null, .null, .null, .int 0]))] s.heap := hP
  have hl := lv_entry ([.ref h0]) (n := 1) (Nat.le_of_ble_eq_true rfl)
  rw [lg_entry_eq]
  generalize (lg_sl ([.ref h0]) ++ List.replicate (1 - (lg_sl ([.ref h0])).length) Slot.unset).toArray = ls at hl ⊢
  have hl : lv_has ls 1 [(0, .ref h0)] := hl
  refine lv_aload_n hx hb dX0_init_0 rfl (lv_at hl 0 rfl) ?_
  refine W.objInit hx hb hown (hts _ (List.mem_of_getElem? (i := 1) rfl)) (hts _ (List.mem_of_getElem? (i := 2) rfl)) (hts _ (List.mem_of_getElem? (i := 3) rfl)) rfl (by rw [hml]; exact hl.1) rfl dX0_init_1 (Nat.le_of_ble_eq_true rfl) (Nat.le_of_ble_eq_true rfl) ?_
  refine W.eq (g2 := F0 m 4 ls []) rfl ?_
  refine lv_aload_n hx hb dX0_init_4 rfl (lv_at hl 0 rfl) ?_
  refine lv_iconst (v := zI 3) hx hb dX0_init_5 (by decide) ?_
  refine va_newa (ty := .int) (a0 := (3, .inl (fun _ => 0))) (N' := 3) hx hb (hts _ (List.mem_of_getElem? (i := 4) rfl)) rfl hK hP hD hS hA (fun _ => rfl) (by decide) (by decide) (by show _ * 4 ≤ _; omega) (by show 0 + 1 ≤ 3; omega) (by show 0 + 3 ≤ 9; omega) dX0_init_6 (fun q1 e1 H hK hP hD hS => ?_)
  refine W.widen (k := 1) (n := 3) (by omega) (by omega) ?_
  have hP : va_P D vwCl [(h0, .inr (0, [.null, .null, .null, .int 0])), (q1, .inl (e1, 3, .inl (fun _ => 0)))] H := hP
  have hD : va_D A [(h0, .inr (0, [.null, .null, .null, .int 0])), (q1, .inl (e1, 3, .inl (fun _ => 0)))] := hD
  have hK : va_K D vwCl [(e1, .int)] s := hK
  refine va_putF (D := D) (ci := 0) (v := .ref q1) (ty := .array .int) (C := RX0) (T := TX0) (N := 4) hx hb hts in_X0_init_X0 tyX0 tyX0_ok nmX0 hown hK hP hD hS 0 rfl rfl 0 (by decide) (hts _ (List.mem_of_getElem? (i := 5) rfl)) (fun _ h9 => h9) rfl hin rfl (by decide +kernel) rfl rfl (Nat.le_of_ble_eq_true rfl) dX0_init_8 (fun H locs hP hD hS => ?_)
  have hP : va_P D vwCl [(h0, .inr (0, [.ref q1, .null, .null, .int 0])), (q1, .inl (e1, 3, .inl (fun _ => 0)))] H := hP
  have hD : va_D A [(h0, .inr (0, [.ref q1, .null, .null, .int 0])), (q1, .inl (e1, 3, .inl (fun _ => 0)))] := hD
  refine lv_aload_n hx hb dX0_init_11 rfl (lv_at hl 0 rfl) ?_
  refine lv_iconst (v := zI 3) hx hb dX0_init_12 (by decide) ?_
  refine va_newa (ty := .int) (a0 := (3, .inl (fun _ => 0))) (N' := 3) hx hb (hts _ (List.mem_of_getElem? (i := 4) rfl)) rfl hK hP hD hS hA (fun _ => rfl) (by decide) (by decide) (by show _ * 4 ≤ _; omega) (by show 1 + 1 ≤ 3; omega) (by show 3 + 3 ≤ 9; omega) dX0_init_13 (fun q2 e2 H hK hP hD hS => ?_)
  refine W.widen (k := 2) (n := 6) (by omega) (by omega) ?_
  have hP : va_P D vwCl [(h0, .inr (0, [.ref q1, .null, .null, .int 0])), (q1, .inl (e1, 3, .inl (fun _ => 0))), (q2, .inl (e2, 3, .inl (fun _ => 0)))] H := hP
  have hD : va_D A [(h0, .inr (0, [.ref q1, .null, .null, .int 0])), (q1, .inl (e1, 3, .inl (fun _ => 0))), (q2, .inl (e2, 3, .inl (fun _ => 0)))] := hD
  have hK : va_K D vwCl [(e1, .int), (e2, .int)] s := hK
  refine va_putF (D := D) (ci := 0) (v := .ref q2) (ty := .array .int) (C := RX0) (T := TX0) (N := 4) hx hb hts in_X0_init_X0 tyX0 tyX0_ok nmX0 hown hK hP hD hS 0 rfl rfl 1 (by decide) (hts _ (List.mem_of_getElem? (i := 6) rfl)) (fun _ h9 => h9) rfl hin rfl (by decide +kernel) rfl rfl (Nat.le_of_ble_eq_true rfl) dX0_init_15 (fun H locs hP hD hS => ?_)
  have hP : va_P D vwCl [(h0, .inr (0, [.ref q1, .ref q2, .null, .int 0])), (q1, .inl (e1, 3, .inl (fun _ => 0))), (q2, .inl (e2, 3, .inl (fun _ => 0)))] H := hP
  have hD : va_D A [(h0, .inr (0, [.ref q1, .ref q2, .null, .int 0])), (q1, .inl (e1, 3, .inl (fun _ => 0))), (q2, .inl (e2, 3, .inl (fun _ => 0)))] := hD
  refine lv_aload_n hx hb dX0_init_18 rfl (lv_at hl 0 rfl) ?_
  refine lv_iconst (v := zI 3) hx hb dX0_init_19 (by decide) ?_
  refine va_newa (ty := .int) (a0 := (3, .inl (fun _ => 0))) (N' := 3) hx hb (hts _ (List.mem_of_getElem? (i := 4) rfl)) rfl hK hP hD hS hA (fun _ => rfl) (by decide) (by decide) (by show _ * 4 ≤ _; omega) (by show 2 + 1 ≤ 3; omega) (by show 6 + 3 ≤ 9; omega) dX0_init_20 (fun q3 e3 H hK hP hD hS => ?_)
  refine W.widen (k := 3) (n := 9) (by omega) (by omega) ?_
  have hP : va_P D vwCl [(h0, .inr (0, [.ref q1, .ref q2, .null, .int 0])), (q1, .inl (e1, 3, .inl (fun _ => 0))), (q2, .inl (e2, 3, .inl (fun _ => 0))), (q3, .inl (e3, 3, .inl (fun _ => 0)))] H := hP
  have hD : va_D A [(h0, .inr (0, [.ref q1, .ref q2, .null, .int 0])), (q1, .inl (e1, 3, .inl (fun _ => 0))), (q2, .inl (e2, 3, .inl (fun _ => 0))), (q3, .inl (e3, 3, .inl (fun _ => 0)))] := hD
  have hK : va_K D vwCl [(e1, .int), (e2, .int), (e3, .int)] s := hK
  refine va_putF (D := D) (ci := 0) (v := .ref q3) (ty := .array .int) (C := RX0) (T := TX0) (N := 4) hx hb hts in_X0_init_X0 tyX0 tyX0_ok nmX0 hown hK hP hD hS 0 rfl rfl 2 (by decide) (hts _ (List.mem_of_getElem? (i := 7) rfl)) (fun _ h9 => h9) rfl hin rfl (by decide +kernel) rfl rfl (Nat.le_of_ble_eq_true rfl) dX0_init_22 (fun H locs hP hD hS => ?_)
  have hP : va_P D vwCl [(h0, .inr (0, [.ref q1, .ref q2, .ref q3, .int 0])), (q1, .inl (e1, 3, .inl (fun _ => 0))), (q2, .inl (e2, 3, .inl (fun _ => 0))), (q3, .inl (e3, 3, .inl (fun _ => 0)))] H := hP
  have hD : va_D A [(h0, .inr (0, [.ref q1, .ref q2, .ref q3, .int 0])), (q1, .inl (e1, 3, .inl (fun _ => 0))), (q2, .inl (e2, 3, .inl (fun _ => 0))), (q3, .inl (e3, 3, .inl (fun _ => 0)))] := hD
  exact W.vret hx hb hr (fun t ht hW => ⟨⟨(), rfl, trivial, q1, q2, q3, e1, e2, e3, by rw [ht]; exact hP, va_K.moved hW.alike hK, hD⟩, hS.F ht⟩) hS.2.2 dX0_init_25 hlocks
theorem in_X1_init_X1 : ∀ w ∈ u_ws RX1 TX1 11, w ∈ wsX1_init := fun _ h => List.mem_cons_of_mem _ (List.mem_append_right _ h)
abbrev rmX1_init : Room := { frames := 1, cells := 7, slots := 252, locals := 12 }
set_option maxHeartbeats 4000000 in
set_option maxRecDepth 100000 in
theorem kX1_init (l : Launch) (D : va_G) (h0 sz b : Nat) (hb5 : 5 ≤ b) (hb12 : b ≤ 12) : Met l yX1_init wsX1_init rmX1_init (va_Pc [.ref h0, .int (nI b)] (fun U => U.heap.size = sz ∧ XNW U ∧ va_P D vwCl [(h0, .inr (1, [.int 0, .null, .null, .null, .null, .null, .null, .null, .int 0, .int 0, .int 0]))] U.heap ∧ va_K D vwCl [] U ∧ va_D (fun _ => True) [(h0, .inr (1, [.int 0, .null, .null, .null, .null, .null, .null, .null, .int 0, .int 0, .int 0]))])) (va_Qv (fun _ : Unit => True) (fun _ t => ∃ (q1 q2 q3 q4 q5 q6 q7 : Nat) (e1 e2 e3 e4 e5 e6 e7 : ClassId) (f : Nat → Int32), (∀ j, j < 4 * (b - 3) → f j = zI (-1)) ∧ va_P D vwCl [(h0, .inr (1, [.int (nI b), .ref q1, .ref q2, .ref q3, .ref q4, .ref q5, .ref q6, .ref q7, .int 0, .int 0, .int 0])), (q1, .inl (e1, 4 * b, .inl (fun _ => 0))), (q2, .inl (e2, 4 * b, .inl (fun _ => 0))), (q3, .inl (e3, 4 * b, .inl (fun _ => 0))), (q4, .inl (e4, 4 * b, .inl (fun _ => 0))), (q5, .inl (e5, b, .inl (fun _ => 0))), (q6, .inl (e6, b, .inl (fun _ => 0))), (q7, .inl (e7, 4 * (b - 3), .inl f))] t.heap ∧ va_K D vwCl [(e1, .int), (e2, .int), (e3, .int), (e4, .int), (e5, .int), (e6, .int), (e7, .int)] t ∧ va_D (va_A [(h0, .inr (1, [.int 0, .null, .null, .null, .null, .null, .null, .null, .int 0, .int 0, .int 0]))] sz) [(h0, .inr (1, [.int (nI b), .ref q1, .ref q2, .ref q3, .ref q4, .ref q5, .ref q6, .ref q7, .int 0, .int 0, .int 0])), (q1, .inl (e1, 4 * b, .inl (fun _ => 0))), (q2, .inl (e2, 4 * b, .inl (fun _ => 0))), (q3, .inl (e3, 4 * b, .inl (fun _ => 0))), (q4, .inl (e4, 4 * b, .inl (fun _ => 0))), (q5, .inl (e5, b, .inl (fun _ => 0))), (q6, .inl (e6, b, .inl (fun _ => 0))), (q7, .inl (e7, 4 * (b - 3), .inl f))]) (va_A [(h0, .inr (1, [.int 0, .null, .null, .null, .null, .null, .null, .null, .int 0, .int 0, .int 0]))] sz)) 7 252 (va_A [(h0, .inr (1, [.int 0, .null, .null, .null, .null, .null, .null, .null, .int 0, .int 0, .int 0]))] sz) := by
  refine Met.ofW (cc := cX1_init) (maxL := 3) (ret := none) (by decide) rfl ?_
  intro p e s m args below meth c s₁ B hml hv
  obtain ⟨rfl, hsz, hN, hP, hK, hD0⟩ := hv
  have hx := B.exec
  have hb := B.bytes
  have hr := B.returns
  have hts := atoms_spec (ws := wsX1_init) B.pre
  have hown : s.vm.findClass RX1 = some m.cls := findClass_of_methodNamed B.named
  have hlocks := B.notSynchronized
  have hin : meth.name = "<init>" := (name_of_methodNamed B.named B.method).1
  subst hsz
  have hD := hD0.self (sz := s.heap.size)
  generalize hAe : va_A [(h0, .inr (1, [.int 0, .null, .null, .null, .null, .null, .null, .null, .int 0, .int 0, .int 0]))] s.heap.size = A at hD ⊢
  have hA : ∀ q : Nat, s.heap.size ≤ q → A q := fun q h => by rw [← hAe]; exact Or.inr h
  have hS : va_S A s.heap s.heap [] := va_S.rf
  have hP : va_P D vwCl [(h0, .inr (1, [.int 0, .null, .null, .null, .null, .null, .null, .null, .int 0, .int 0, .int 0]))] s.heap := hP
  have hl := lv_entry ([.ref h0, .int (nI b)]) (n := 3) (Nat.le_of_ble_eq_true rfl)
  rw [lg_entry_eq]
  generalize (lg_sl ([.ref h0, .int (nI b)]) ++ List.replicate (3 - (lg_sl ([.ref h0, .int (nI b)])).length) Slot.unset).toArray = ls at hl ⊢
  have hl : lv_has ls 3 [(0, .ref h0), (1, .int (nI b))] := hl
  obtain ⟨f1, f2, f3, f4, f5, f6⟩ := ct_f b (by omega) hb5
  refine lv_aload_n hx hb dX1_init_0 rfl (lv_at hl 0 rfl) ?_
  refine W.objInit hx hb hown (hts _ (List.mem_of_getElem? (i := 1) rfl)) (hts _ (List.mem_of_getElem? (i := 2) rfl)) (hts _ (List.mem_of_getElem? (i := 3) rfl)) rfl (by rw [hml]; exact hl.1) rfl dX1_init_1 (Nat.le_of_ble_eq_true rfl) (Nat.le_of_ble_eq_true rfl) ?_
  refine W.eq (g2 := F0 m 4 ls []) rfl ?_
  refine lv_aload_n hx hb dX1_init_4 rfl (lv_at hl 0 rfl) ?_
  refine lv_iload_n hx hb dX1_init_5 rfl (lv_at hl 1 rfl) ?_
  refine va_putF (D := D) (ci := 1) (v := .int (nI b)) (ty := .int) (C := RX1) (T := TX1) (N := 11) hx hb hts in_X1_init_X1 tyX1 tyX1_ok nmX1 hown hK hP hD hS 0 rfl rfl 0 (by decide) (hts _ (List.mem_of_getElem? (i := 4) rfl)) (fun _ h9 => h9) rfl hin rfl (by decide +kernel) rfl rfl (Nat.le_of_ble_eq_true rfl) dX1_init_6 (fun H locs hP hD hS => ?_)
  have hP : va_P D vwCl [(h0, .inr (1, [.int (nI b), .null, .null, .null, .null, .null, .null, .null, .int 0, .int 0, .int 0]))] H := hP
  have hD : va_D A [(h0, .inr (1, [.int (nI b), .null, .null, .null, .null, .null, .null, .null, .int 0, .int 0, .int 0]))] := hD
  refine lv_aload_n hx hb dX1_init_9 rfl (lv_at hl 0 rfl) ?_
  refine lv_iload_n hx hb dX1_init_10 rfl (lv_at hl 1 rfl) ?_
  refine lv_iconst (v := zI 4) hx hb dX1_init_11 (by decide) ?_
  refine lv_imul hx hb dX1_init_12 ?_
  refine va_newa (ty := .int) (a0 := (4 * b, .inl (fun _ => 0))) (N' := 4 * b) hx hb (hts _ (List.mem_of_getElem? (i := 5) rfl)) rfl hK hP hD hS hA (fun _ => rfl) f1 f2 (by show _ * 4 ≤ _; omega) (by show 0 + 1 ≤ 7; omega) (by show 0 + (4 * b) ≤ 252; omega) dX1_init_13 (fun q1 e1 H hK hP hD hS => ?_)
  refine W.widen (k := 1) (n := 48) (by omega) (by omega) ?_
  have hP : va_P D vwCl [(h0, .inr (1, [.int (nI b), .null, .null, .null, .null, .null, .null, .null, .int 0, .int 0, .int 0])), (q1, .inl (e1, 4 * b, .inl (fun _ => 0)))] H := hP
  have hD : va_D A [(h0, .inr (1, [.int (nI b), .null, .null, .null, .null, .null, .null, .null, .int 0, .int 0, .int 0])), (q1, .inl (e1, 4 * b, .inl (fun _ => 0)))] := hD
  have hK : va_K D vwCl [(e1, .int)] s := hK
  refine va_putF (D := D) (ci := 1) (v := .ref q1) (ty := .array .int) (C := RX1) (T := TX1) (N := 11) hx hb hts in_X1_init_X1 tyX1 tyX1_ok nmX1 hown hK hP hD hS 0 rfl rfl 1 (by decide) (hts _ (List.mem_of_getElem? (i := 6) rfl)) (fun _ h9 => h9) rfl hin rfl (by decide +kernel) rfl rfl (Nat.le_of_ble_eq_true rfl) dX1_init_15 (fun H locs hP hD hS => ?_)
  have hP : va_P D vwCl [(h0, .inr (1, [.int (nI b), .ref q1, .null, .null, .null, .null, .null, .null, .int 0, .int 0, .int 0])), (q1, .inl (e1, 4 * b, .inl (fun _ => 0)))] H := hP
  have hD : va_D A [(h0, .inr (1, [.int (nI b), .ref q1, .null, .null, .null, .null, .null, .null, .int 0, .int 0, .int 0])), (q1, .inl (e1, 4 * b, .inl (fun _ => 0)))] := hD
  refine lv_aload_n hx hb dX1_init_18 rfl (lv_at hl 0 rfl) ?_
  refine lv_iload_n hx hb dX1_init_19 rfl (lv_at hl 1 rfl) ?_
  refine lv_iconst (v := zI 4) hx hb dX1_init_20 (by decide) ?_
  refine lv_imul hx hb dX1_init_21 ?_
  refine va_newa (ty := .int) (a0 := (4 * b, .inl (fun _ => 0))) (N' := 4 * b) hx hb (hts _ (List.mem_of_getElem? (i := 5) rfl)) rfl hK hP hD hS hA (fun _ => rfl) f1 f2 (by show _ * 4 ≤ _; omega) (by show 1 + 1 ≤ 7; omega) (by show 48 + (4 * b) ≤ 252; omega) dX1_init_22 (fun q2 e2 H hK hP hD hS => ?_)
  refine W.widen (k := 2) (n := 96) (by omega) (by omega) ?_
  have hP : va_P D vwCl [(h0, .inr (1, [.int (nI b), .ref q1, .null, .null, .null, .null, .null, .null, .int 0, .int 0, .int 0])), (q1, .inl (e1, 4 * b, .inl (fun _ => 0))), (q2, .inl (e2, 4 * b, .inl (fun _ => 0)))] H := hP
  have hD : va_D A [(h0, .inr (1, [.int (nI b), .ref q1, .null, .null, .null, .null, .null, .null, .int 0, .int 0, .int 0])), (q1, .inl (e1, 4 * b, .inl (fun _ => 0))), (q2, .inl (e2, 4 * b, .inl (fun _ => 0)))] := hD
  have hK : va_K D vwCl [(e1, .int), (e2, .int)] s := hK
  refine va_putF (D := D) (ci := 1) (v := .ref q2) (ty := .array .int) (C := RX1) (T := TX1) (N := 11) hx hb hts in_X1_init_X1 tyX1 tyX1_ok nmX1 hown hK hP hD hS 0 rfl rfl 2 (by decide) (hts _ (List.mem_of_getElem? (i := 7) rfl)) (fun _ h9 => h9) rfl hin rfl (by decide +kernel) rfl rfl (Nat.le_of_ble_eq_true rfl) dX1_init_24 (fun H locs hP hD hS => ?_)
  have hP : va_P D vwCl [(h0, .inr (1, [.int (nI b), .ref q1, .ref q2, .null, .null, .null, .null, .null, .int 0, .int 0, .int 0])), (q1, .inl (e1, 4 * b, .inl (fun _ => 0))), (q2, .inl (e2, 4 * b, .inl (fun _ => 0)))] H := hP
  have hD : va_D A [(h0, .inr (1, [.int (nI b), .ref q1, .ref q2, .null, .null, .null, .null, .null, .int 0, .int 0, .int 0])), (q1, .inl (e1, 4 * b, .inl (fun _ => 0))), (q2, .inl (e2, 4 * b, .inl (fun _ => 0)))] := hD
  refine lv_aload_n hx hb dX1_init_27 rfl (lv_at hl 0 rfl) ?_
  refine lv_iload_n hx hb dX1_init_28 rfl (lv_at hl 1 rfl) ?_
  refine lv_iconst (v := zI 4) hx hb dX1_init_29 (by decide) ?_
  refine lv_imul hx hb dX1_init_30 ?_
  refine va_newa (ty := .int) (a0 := (4 * b, .inl (fun _ => 0))) (N' := 4 * b) hx hb (hts _ (List.mem_of_getElem? (i := 5) rfl)) rfl hK hP hD hS hA (fun _ => rfl) f1 f2 (by show _ * 4 ≤ _; omega) (by show 2 + 1 ≤ 7; omega) (by show 96 + (4 * b) ≤ 252; omega) dX1_init_31 (fun q3 e3 H hK hP hD hS => ?_)
  refine W.widen (k := 3) (n := 144) (by omega) (by omega) ?_
  have hP : va_P D vwCl [(h0, .inr (1, [.int (nI b), .ref q1, .ref q2, .null, .null, .null, .null, .null, .int 0, .int 0, .int 0])), (q1, .inl (e1, 4 * b, .inl (fun _ => 0))), (q2, .inl (e2, 4 * b, .inl (fun _ => 0))), (q3, .inl (e3, 4 * b, .inl (fun _ => 0)))] H := hP
  have hD : va_D A [(h0, .inr (1, [.int (nI b), .ref q1, .ref q2, .null, .null, .null, .null, .null, .int 0, .int 0, .int 0])), (q1, .inl (e1, 4 * b, .inl (fun _ => 0))), (q2, .inl (e2, 4 * b, .inl (fun _ => 0))), (q3, .inl (e3, 4 * b, .inl (fun _ => 0)))] := hD
  have hK : va_K D vwCl [(e1, .int), (e2, .int), (e3, .int)] s := hK
  refine va_putF (D := D) (ci := 1) (v := .ref q3) (ty := .array .int) (C := RX1) (T := TX1) (N := 11) hx hb hts in_X1_init_X1 tyX1 tyX1_ok nmX1 hown hK hP hD hS 0 rfl rfl 3 (by decide) (hts _ (List.mem_of_getElem? (i := 8) rfl)) (fun _ h9 => h9) rfl hin rfl (by decide +kernel) rfl rfl (Nat.le_of_ble_eq_true rfl) dX1_init_33 (fun H locs hP hD hS => ?_)
  have hP : va_P D vwCl [(h0, .inr (1, [.int (nI b), .ref q1, .ref q2, .ref q3, .null, .null, .null, .null, .int 0, .int 0, .int 0])), (q1, .inl (e1, 4 * b, .inl (fun _ => 0))), (q2, .inl (e2, 4 * b, .inl (fun _ => 0))), (q3, .inl (e3, 4 * b, .inl (fun _ => 0)))] H := hP
  have hD : va_D A [(h0, .inr (1, [.int (nI b), .ref q1, .ref q2, .ref q3, .null, .null, .null, .null, .int 0, .int 0, .int 0])), (q1, .inl (e1, 4 * b, .inl (fun _ => 0))), (q2, .inl (e2, 4 * b, .inl (fun _ => 0))), (q3, .inl (e3, 4 * b, .inl (fun _ => 0)))] := hD
  refine lv_aload_n hx hb dX1_init_36 rfl (lv_at hl 0 rfl) ?_
  refine lv_iload_n hx hb dX1_init_37 rfl (lv_at hl 1 rfl) ?_
  refine lv_iconst (v := zI 4) hx hb dX1_init_38 (by decide) ?_
  refine lv_imul hx hb dX1_init_39 ?_
  refine va_newa (ty := .int) (a0 := (4 * b, .inl (fun _ => 0))) (N' := 4 * b) hx hb (hts _ (List.mem_of_getElem? (i := 5) rfl)) rfl hK hP hD hS hA (fun _ => rfl) f1 f2 (by show _ * 4 ≤ _; omega) (by show 3 + 1 ≤ 7; omega) (by show 144 + (4 * b) ≤ 252; omega) dX1_init_40 (fun q4 e4 H hK hP hD hS => ?_)
  refine W.widen (k := 4) (n := 192) (by omega) (by omega) ?_
  have hP : va_P D vwCl [(h0, .inr (1, [.int (nI b), .ref q1, .ref q2, .ref q3, .null, .null, .null, .null, .int 0, .int 0, .int 0])), (q1, .inl (e1, 4 * b, .inl (fun _ => 0))), (q2, .inl (e2, 4 * b, .inl (fun _ => 0))), (q3, .inl (e3, 4 * b, .inl (fun _ => 0))), (q4, .inl (e4, 4 * b, .inl (fun _ => 0)))] H := hP
  have hD : va_D A [(h0, .inr (1, [.int (nI b), .ref q1, .ref q2, .ref q3, .null, .null, .null, .null, .int 0, .int 0, .int 0])), (q1, .inl (e1, 4 * b, .inl (fun _ => 0))), (q2, .inl (e2, 4 * b, .inl (fun _ => 0))), (q3, .inl (e3, 4 * b, .inl (fun _ => 0))), (q4, .inl (e4, 4 * b, .inl (fun _ => 0)))] := hD
  have hK : va_K D vwCl [(e1, .int), (e2, .int), (e3, .int), (e4, .int)] s := hK
  refine va_putF (D := D) (ci := 1) (v := .ref q4) (ty := .array .int) (C := RX1) (T := TX1) (N := 11) hx hb hts in_X1_init_X1 tyX1 tyX1_ok nmX1 hown hK hP hD hS 0 rfl rfl 4 (by decide) (hts _ (List.mem_of_getElem? (i := 9) rfl)) (fun _ h9 => h9) rfl hin rfl (by decide +kernel) rfl rfl (Nat.le_of_ble_eq_true rfl) dX1_init_42 (fun H locs hP hD hS => ?_)
  have hP : va_P D vwCl [(h0, .inr (1, [.int (nI b), .ref q1, .ref q2, .ref q3, .ref q4, .null, .null, .null, .int 0, .int 0, .int 0])), (q1, .inl (e1, 4 * b, .inl (fun _ => 0))), (q2, .inl (e2, 4 * b, .inl (fun _ => 0))), (q3, .inl (e3, 4 * b, .inl (fun _ => 0))), (q4, .inl (e4, 4 * b, .inl (fun _ => 0)))] H := hP
  have hD : va_D A [(h0, .inr (1, [.int (nI b), .ref q1, .ref q2, .ref q3, .ref q4, .null, .null, .null, .int 0, .int 0, .int 0])), (q1, .inl (e1, 4 * b, .inl (fun _ => 0))), (q2, .inl (e2, 4 * b, .inl (fun _ => 0))), (q3, .inl (e3, 4 * b, .inl (fun _ => 0))), (q4, .inl (e4, 4 * b, .inl (fun _ => 0)))] := hD
  refine lv_aload_n hx hb dX1_init_45 rfl (lv_at hl 0 rfl) ?_
  refine lv_iload_n hx hb dX1_init_46 rfl (lv_at hl 1 rfl) ?_
  refine va_newa (ty := .int) (a0 := (b, .inl (fun _ => 0))) (N' := b) hx hb (hts _ (List.mem_of_getElem? (i := 5) rfl)) rfl hK hP hD hS hA (fun _ => rfl) f3 f4 (by show _ * 4 ≤ _; omega) (by show 4 + 1 ≤ 7; omega) (by show 192 + b ≤ 252; omega) dX1_init_47 (fun q5 e5 H hK hP hD hS => ?_)
  refine W.widen (k := 5) (n := 204) (by omega) (by omega) ?_
  have hP : va_P D vwCl [(h0, .inr (1, [.int (nI b), .ref q1, .ref q2, .ref q3, .ref q4, .null, .null, .null, .int 0, .int 0, .int 0])), (q1, .inl (e1, 4 * b, .inl (fun _ => 0))), (q2, .inl (e2, 4 * b, .inl (fun _ => 0))), (q3, .inl (e3, 4 * b, .inl (fun _ => 0))), (q4, .inl (e4, 4 * b, .inl (fun _ => 0))), (q5, .inl (e5, b, .inl (fun _ => 0)))] H := hP
  have hD : va_D A [(h0, .inr (1, [.int (nI b), .ref q1, .ref q2, .ref q3, .ref q4, .null, .null, .null, .int 0, .int 0, .int 0])), (q1, .inl (e1, 4 * b, .inl (fun _ => 0))), (q2, .inl (e2, 4 * b, .inl (fun _ => 0))), (q3, .inl (e3, 4 * b, .inl (fun _ => 0))), (q4, .inl (e4, 4 * b, .inl (fun _ => 0))), (q5, .inl (e5, b, .inl (fun _ => 0)))] := hD
  have hK : va_K D vwCl [(e1, .int), (e2, .int), (e3, .int), (e4, .int), (e5, .int)] s := hK
  refine va_putF (D := D) (ci := 1) (v := .ref q5) (ty := .array .int) (C := RX1) (T := TX1) (N := 11) hx hb hts in_X1_init_X1 tyX1 tyX1_ok nmX1 hown hK hP hD hS 0 rfl rfl 5 (by decide) (hts _ (List.mem_of_getElem? (i := 10) rfl)) (fun _ h9 => h9) rfl hin rfl (by decide +kernel) rfl rfl (Nat.le_of_ble_eq_true rfl) dX1_init_49 (fun H locs hP hD hS => ?_)
  have hP : va_P D vwCl [(h0, .inr (1, [.int (nI b), .ref q1, .ref q2, .ref q3, .ref q4, .ref q5, .null, .null, .int 0, .int 0, .int 0])), (q1, .inl (e1, 4 * b, .inl (fun _ => 0))), (q2, .inl (e2, 4 * b, .inl (fun _ => 0))), (q3, .inl (e3, 4 * b, .inl (fun _ => 0))), (q4, .inl (e4, 4 * b, .inl (fun _ => 0))), (q5, .inl (e5, b, .inl (fun _ => 0)))] H := hP
  have hD : va_D A [(h0, .inr (1, [.int (nI b), .ref q1, .ref q2, .ref q3, .ref q4, .ref q5, .null, .null, .int 0, .int 0, .int 0])), (q1, .inl (e1, 4 * b, .inl (fun _ => 0))), (q2, .inl (e2, 4 * b, .inl (fun _ => 0))), (q3, .inl (e3, 4 * b, .inl (fun _ => 0))), (q4, .inl (e4, 4 * b, .inl (fun _ => 0))), (q5, .inl (e5, b, .inl (fun _ => 0)))] := hD
  refine lv_aload_n hx hb dX1_init_52 rfl (lv_at hl 0 rfl) ?_
  refine lv_iload_n hx hb dX1_init_53 rfl (lv_at hl 1 rfl) ?_
  refine va_newa (ty := .int) (a0 := (b, .inl (fun _ => 0))) (N' := b) hx hb (hts _ (List.mem_of_getElem? (i := 5) rfl)) rfl hK hP hD hS hA (fun _ => rfl) f3 f4 (by show _ * 4 ≤ _; omega) (by show 5 + 1 ≤ 7; omega) (by show 204 + b ≤ 252; omega) dX1_init_54 (fun q6 e6 H hK hP hD hS => ?_)
  refine W.widen (k := 6) (n := 216) (by omega) (by omega) ?_
  have hP : va_P D vwCl [(h0, .inr (1, [.int (nI b), .ref q1, .ref q2, .ref q3, .ref q4, .ref q5, .null, .null, .int 0, .int 0, .int 0])), (q1, .inl (e1, 4 * b, .inl (fun _ => 0))), (q2, .inl (e2, 4 * b, .inl (fun _ => 0))), (q3, .inl (e3, 4 * b, .inl (fun _ => 0))), (q4, .inl (e4, 4 * b, .inl (fun _ => 0))), (q5, .inl (e5, b, .inl (fun _ => 0))), (q6, .inl (e6, b, .inl (fun _ => 0)))] H := hP
  have hD : va_D A [(h0, .inr (1, [.int (nI b), .ref q1, .ref q2, .ref q3, .ref q4, .ref q5, .null, .null, .int 0, .int 0, .int 0])), (q1, .inl (e1, 4 * b, .inl (fun _ => 0))), (q2, .inl (e2, 4 * b, .inl (fun _ => 0))), (q3, .inl (e3, 4 * b, .inl (fun _ => 0))), (q4, .inl (e4, 4 * b, .inl (fun _ => 0))), (q5, .inl (e5, b, .inl (fun _ => 0))), (q6, .inl (e6, b, .inl (fun _ => 0)))] := hD
  have hK : va_K D vwCl [(e1, .int), (e2, .int), (e3, .int), (e4, .int), (e5, .int), (e6, .int)] s := hK
  refine va_putF (D := D) (ci := 1) (v := .ref q6) (ty := .array .int) (C := RX1) (T := TX1) (N := 11) hx hb hts in_X1_init_X1 tyX1 tyX1_ok nmX1 hown hK hP hD hS 0 rfl rfl 6 (by decide) (hts _ (List.mem_of_getElem? (i := 11) rfl)) (fun _ h9 => h9) rfl hin rfl (by decide +kernel) rfl rfl (Nat.le_of_ble_eq_true rfl) dX1_init_56 (fun H locs hP hD hS => ?_)
  have hP : va_P D vwCl [(h0, .inr (1, [.int (nI b), .ref q1, .ref q2, .ref q3, .ref q4, .ref q5, .ref q6, .null, .int 0, .int 0, .int 0])), (q1, .inl (e1, 4 * b, .inl (fun _ => 0))), (q2, .inl (e2, 4 * b, .inl (fun _ => 0))), (q3, .inl (e3, 4 * b, .inl (fun _ => 0))), (q4, .inl (e4, 4 * b, .inl (fun _ => 0))), (q5, .inl (e5, b, .inl (fun _ => 0))), (q6, .inl (e6, b, .inl (fun _ => 0)))] H := hP
  have hD : va_D A [(h0, .inr (1, [.int (nI b), .ref q1, .ref q2, .ref q3, .ref q4, .ref q5, .ref q6, .null, .int 0, .int 0, .int 0])), (q1, .inl (e1, 4 * b, .inl (fun _ => 0))), (q2, .inl (e2, 4 * b, .inl (fun _ => 0))), (q3, .inl (e3, 4 * b, .inl (fun _ => 0))), (q4, .inl (e4, 4 * b, .inl (fun _ => 0))), (q5, .inl (e5, b, .inl (fun _ => 0))), (q6, .inl (e6, b, .inl (fun _ => 0)))] := hD
  refine lv_aload_n hx hb dX1_init_59 rfl (lv_at hl 0 rfl) ?_
  refine lv_iload_n hx hb dX1_init_60 rfl (lv_at hl 1 rfl) ?_
  refine lv_iconst (v := zI 3) hx hb dX1_init_61 (by decide) ?_
  refine lv_isub hx hb dX1_init_62 ?_
  refine lv_iconst (v := zI 4) hx hb dX1_init_63 (by decide) ?_
  refine lv_imul hx hb dX1_init_64 ?_
  refine va_newa (ty := .int) (a0 := (4 * (b - 3), .inl (fun _ => 0))) (N' := 4 * (b - 3)) hx hb (hts _ (List.mem_of_getElem? (i := 5) rfl)) rfl hK hP hD hS hA (fun _ => rfl) f5 f6 (by show _ * 4 ≤ _; omega) (by show 6 + 1 ≤ 7; omega) (by show 216 + (4 * (b - 3)) ≤ 252; omega) dX1_init_65 (fun q7 e7 H hK hP hD hS => ?_)
  refine W.widen (k := 7) (n := 252) (by omega) (by omega) ?_
  have hP : va_P D vwCl [(h0, .inr (1, [.int (nI b), .ref q1, .ref q2, .ref q3, .ref q4, .ref q5, .ref q6, .null, .int 0, .int 0, .int 0])), (q1, .inl (e1, 4 * b, .inl (fun _ => 0))), (q2, .inl (e2, 4 * b, .inl (fun _ => 0))), (q3, .inl (e3, 4 * b, .inl (fun _ => 0))), (q4, .inl (e4, 4 * b, .inl (fun _ => 0))), (q5, .inl (e5, b, .inl (fun _ => 0))), (q6, .inl (e6, b, .inl (fun _ => 0))), (q7, .inl (e7, 4 * (b - 3), .inl (fun _ => 0)))] H := hP
  have hD : va_D A [(h0, .inr (1, [.int (nI b), .ref q1, .ref q2, .ref q3, .ref q4, .ref q5, .ref q6, .null, .int 0, .int 0, .int 0])), (q1, .inl (e1, 4 * b, .inl (fun _ => 0))), (q2, .inl (e2, 4 * b, .inl (fun _ => 0))), (q3, .inl (e3, 4 * b, .inl (fun _ => 0))), (q4, .inl (e4, 4 * b, .inl (fun _ => 0))), (q5, .inl (e5, b, .inl (fun _ => 0))), (q6, .inl (e6, b, .inl (fun _ => 0))), (q7, .inl (e7, 4 * (b - 3), .inl (fun _ => 0)))] := hD
  have hK : va_K D vwCl [(e1, .int), (e2, .int), (e3, .int), (e4, .int), (e5, .int), (e6, .int), (e7, .int)] s := hK
  refine va_putF (D := D) (ci := 1) (v := .ref q7) (ty := .array .int) (C := RX1) (T := TX1) (N := 11) hx hb hts in_X1_init_X1 tyX1 tyX1_ok nmX1 hown hK hP hD hS 0 rfl rfl 7 (by decide) (hts _ (List.mem_of_getElem? (i := 12) rfl)) (fun _ h9 => h9) rfl hin rfl (by decide +kernel) rfl rfl (Nat.le_of_ble_eq_true rfl) dX1_init_67 (fun H locs hP hD hS => ?_)
  have hP : va_P D vwCl [(h0, .inr (1, [.int (nI b), .ref q1, .ref q2, .ref q3, .ref q4, .ref q5, .ref q6, .ref q7, .int 0, .int 0, .int 0])), (q1, .inl (e1, 4 * b, .inl (fun _ => 0))), (q2, .inl (e2, 4 * b, .inl (fun _ => 0))), (q3, .inl (e3, 4 * b, .inl (fun _ => 0))), (q4, .inl (e4, 4 * b, .inl (fun _ => 0))), (q5, .inl (e5, b, .inl (fun _ => 0))), (q6, .inl (e6, b, .inl (fun _ => 0))), (q7, .inl (e7, 4 * (b - 3), .inl (fun _ => 0)))] H := hP
  have hD : va_D A [(h0, .inr (1, [.int (nI b), .ref q1, .ref q2, .ref q3, .ref q4, .ref q5, .ref q6, .ref q7, .int 0, .int 0, .int 0])), (q1, .inl (e1, 4 * b, .inl (fun _ => 0))), (q2, .inl (e2, 4 * b, .inl (fun _ => 0))), (q3, .inl (e3, 4 * b, .inl (fun _ => 0))), (q4, .inl (e4, 4 * b, .inl (fun _ => 0))), (q5, .inl (e5, b, .inl (fun _ => 0))), (q6, .inl (e6, b, .inl (fun _ => 0))), (q7, .inl (e7, 4 * (b - 3), .inl (fun _ => 0)))] := hD
  refine lv_iconst (v := zI 0) hx hb dX1_init_70 (by decide) ?_
  refine lv_istore_n (lv' := [(2, .int (zI 0)), (0, .ref h0), (1, .int (nI b))]) hx hb dX1_init_71 rfl hl (by decide) rfl (fun ls hl => ?_)
  have loop : ∀ (N i : Nat) (f : Nat → Int32) (H : Heap) (locs : List Loc) (ls : Array Slot), i + N = 4 * (b - 3) → (∀ j, j < i → f j = zI (-1)) → va_P D vwCl [(h0, .inr (1, [.int (nI b), .ref q1, .ref q2, .ref q3, .ref q4, .ref q5, .ref q6, .ref q7, .int 0, .int 0, .int 0])), (q1, .inl (e1, 4 * b, .inl (fun _ => 0))), (q2, .inl (e2, 4 * b, .inl (fun _ => 0))), (q3, .inl (e3, 4 * b, .inl (fun _ => 0))), (q4, .inl (e4, 4 * b, .inl (fun _ => 0))), (q5, .inl (e5, b, .inl (fun _ => 0))), (q6, .inl (e6, b, .inl (fun _ => 0))), (q7, .inl (e7, 4 * (b - 3), .inl f))] H → va_D A [(h0, .inr (1, [.int (nI b), .ref q1, .ref q2, .ref q3, .ref q4, .ref q5, .ref q6, .ref q7, .int 0, .int 0, .int 0])), (q1, .inl (e1, 4 * b, .inl (fun _ => 0))), (q2, .inl (e2, 4 * b, .inl (fun _ => 0))), (q3, .inl (e3, 4 * b, .inl (fun _ => 0))), (q4, .inl (e4, 4 * b, .inl (fun _ => 0))), (q5, .inl (e5, b, .inl (fun _ => 0))), (q6, .inl (e6, b, .inl (fun _ => 0))), (q7, .inl (e7, 4 * (b - 3), .inl f))] → va_S A s.heap H locs → lv_has ls 3 [(0, .ref h0), (1, .int (nI b)), (2, .int (nI i))] → W p l e (headSpec wsX1_init rmX1_init).room s m (List.toArray [.ref h0, .int (nI b)]) below meth c H locs 7 252 (MQ below (va_Qv (fun _ : Unit => True) (fun _ t => ∃ (q1 q2 q3 q4 q5 q6 q7 : Nat) (e1 e2 e3 e4 e5 e6 e7 : ClassId) (f : Nat → Int32), (∀ j, j < 4 * (b - 3) → f j = zI (-1)) ∧ va_P D vwCl [(h0, .inr (1, [.int (nI b), .ref q1, .ref q2, .ref q3, .ref q4, .ref q5, .ref q6, .ref q7, .int 0, .int 0, .int 0])), (q1, .inl (e1, 4 * b, .inl (fun _ => 0))), (q2, .inl (e2, 4 * b, .inl (fun _ => 0))), (q3, .inl (e3, 4 * b, .inl (fun _ => 0))), (q4, .inl (e4, 4 * b, .inl (fun _ => 0))), (q5, .inl (e5, b, .inl (fun _ => 0))), (q6, .inl (e6, b, .inl (fun _ => 0))), (q7, .inl (e7, 4 * (b - 3), .inl f))] t.heap ∧ va_K D vwCl [(e1, .int), (e2, .int), (e3, .int), (e4, .int), (e5, .int), (e6, .int), (e7, .int)] t ∧ va_D A [(h0, .inr (1, [.int (nI b), .ref q1, .ref q2, .ref q3, .ref q4, .ref q5, .ref q6, .ref q7, .int 0, .int 0, .int 0])), (q1, .inl (e1, 4 * b, .inl (fun _ => 0))), (q2, .inl (e2, 4 * b, .inl (fun _ => 0))), (q3, .inl (e3, 4 * b, .inl (fun _ => 0))), (q4, .inl (e4, 4 * b, .inl (fun _ => 0))), (q5, .inl (e5, b, .inl (fun _ => 0))), (q6, .inl (e6, b, .inl (fun _ => 0))), (q7, .inl (e7, 4 * (b - 3), .inl f))]) A) (List.toArray [.ref h0, .int (nI b)]) s 7 252 A) (F0 m 72 ls []) := by
    intro N
    induction N with
    | zero =>
      intro i f H locs ls hi hf hP hD hS hl
      refine lv_iload_n hx hb dX1_init_72 rfl (lv_at hl 2 rfl) ?_
      refine lv_aload_n hx hb dX1_init_73 rfl (lv_at hl 0 rfl) ?_
      refine va_get (D := D) (ci := 1) (v := .ref q7) (C := RX1) (T := TX1) (N := 11) hx hb hts in_X1_init_X1 hown hK hP 0 rfl rfl 7 (by decide) (hts _ (List.mem_of_getElem? (i := 12) rfl)) (fun _ h9 => h9) rfl dX1_init_74 ?_
      refine va_alen (v := nI (4 * (b - 3))) (ty := .int) hx hb hK hP 7 6 rfl rfl rfl dX1_init_77 ?_
      refine lv_icmp_ge (tgt := 94) hx hb dX1_init_78 (by decide) (fun c1 => ?_) (fun c1 => absurd (nI_le (by omega) (by omega)) c1)
      exact W.vret hx hb hr (fun t ht hW => ⟨⟨(), rfl, trivial, q1, q2, q3, q4, q5, q6, q7, e1, e2, e3, e4, e5, e6, e7, f, fun j hj => hf j (by omega), by rw [ht]; exact hP, va_K.moved hW.alike hK, hD⟩, hS.F ht⟩) hS.2.2 dX1_init_94 hlocks
    | succ N ih =>
      intro i f H locs ls hi hf hP hD hS hl
      refine lv_iload_n hx hb dX1_init_72 rfl (lv_at hl 2 rfl) ?_
      refine lv_aload_n hx hb dX1_init_73 rfl (lv_at hl 0 rfl) ?_
      refine va_get (D := D) (ci := 1) (v := .ref q7) (C := RX1) (T := TX1) (N := 11) hx hb hts in_X1_init_X1 hown hK hP 0 rfl rfl 7 (by decide) (hts _ (List.mem_of_getElem? (i := 12) rfl)) (fun _ h9 => h9) rfl dX1_init_74 ?_
      refine va_alen (v := nI (4 * (b - 3))) (ty := .int) hx hb hK hP 7 6 rfl rfl rfl dX1_init_77 ?_
      refine lv_icmp_ge (tgt := 94) hx hb dX1_init_78 (by decide) (fun c1 => absurd c1 (nI_ge (by omega) (by omega))) (fun c1 => ?_)
      refine lv_aload_n hx hb dX1_init_81 rfl (lv_at hl 0 rfl) ?_
      refine va_get (D := D) (ci := 1) (v := .ref q7) (C := RX1) (T := TX1) (N := 11) hx hb hts in_X1_init_X1 hown hK hP 0 rfl rfl 7 (by decide) (hts _ (List.mem_of_getElem? (i := 12) rfl)) (fun _ h9 => h9) rfl dX1_init_82 ?_
      refine lv_iload_n hx hb dX1_init_85 rfl (lv_at hl 2 rfl) ?_
      refine lv_iconst (v := zI (-1)) hx hb dX1_init_86 (by decide) ?_
      refine va_iast hx hb hK hP hD hS 7 6 rfl rfl (vp_in_nI (by omega) (by omega)) dX1_init_87 (fun H locs hP hD hS => ?_)
      refine lv_iinc (v := nI (i + 1)) (lv' := [(2, .int (nI (i + 1))), (0, .ref h0), (1, .int (nI b))]) hx hb dX1_init_88 hl (k := 2) rfl (nI_1 i) (by decide) rfl (fun ls hl => ?_)
      refine lv_goto (tgt := 72) hx hb dX1_init_91 (by decide) ?_
      refine ih (i + 1) (upd f (nI i).toNatClampNeg (zI (-1))) H locs ls (by omega) (fun j hj => ?_) hP hD hS (lv_sub hl [1, 2, 0] rfl)
      rw [nI_clamp (by omega)]
      by_cases hji : j = i
      · rw [hji]; exact pk_us
      · rw [pk_un hji]; exact hf j (by omega)
  exact loop (4 * (b - 3)) 0 (fun _ => 0) H locs ls (by omega) (fun j hj => absurd hj (Nat.not_lt_zero j)) hP hD hS (lv_sub hl [1, 2, 0] rfl)
