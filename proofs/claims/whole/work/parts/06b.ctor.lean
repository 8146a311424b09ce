def cRel (x1 x2 : Int32) (b : Nat) (sp : Int32) : Prop := 5 ≤ b ∧ b ≤ 12 ∧ (x1 < zI 5 → b = 8) ∧ (zI 12 < x1 → b = 8) ∧ (¬ x1 < zI 5 → ¬ zI 12 < x1 → x1 = nI b) ∧ (x2 < zI 1 → sp = zI 4) ∧ (zI 50 < x2 → sp = zI 4) ∧ (¬ x2 < zI 1 → ¬ zI 50 < x2 → sp = x2) ∧ ∃ k : Nat, 1 ≤ k ∧ k ≤ 50 ∧ sp = nI k
theorem cRel_at (x1 x2 : Int32) : ∃ (b : Nat) (sp : Int32), cRel x1 x2 b sp := by
  have h1 : ∃ b : Nat, 5 ≤ b ∧ b ≤ 12 ∧ (x1 < zI 5 → b = 8) ∧ (zI 12 < x1 → b = 8) ∧ (¬ x1 < zI 5 → ¬ zI 12 < x1 → x1 = nI b) := by
    by_cases c1 : x1 < zI 5
    · exact ⟨8, by omega, by omega, fun _ => rfl, fun _ => rfl, fun h => absurd c1 h⟩
    · by_cases c2 : zI 12 < x1
      · exact ⟨8, by omega, by omega, fun h => absurd h c1, fun _ => rfl, fun _ h => absurd c2 h⟩
      · have e1 : (zI 5).toInt = 5 := by decide
        have e2 : (zI 12).toInt = 12 := by decide
        rw [Int32.lt_iff_toInt_lt] at c1 c2
        have c0 : ¬ x1 < 0 := by
          rw [Int32.lt_iff_toInt_lt]
          have e0 : (0 : Int32).toInt = 0 := by decide
          omega
        obtain ⟨j, hj, rfl⟩ := nI_of c0
        rw [nI_toInt hj] at c1 c2
        exact ⟨j, by omega, by omega, fun h => by rw [Int32.lt_iff_toInt_lt, nI_toInt hj] at h; omega, fun h => by rw [Int32.lt_iff_toInt_lt, nI_toInt hj] at h; omega, fun _ _ => rfl⟩
  have h2 : ∃ sp : Int32, (x2 < zI 1 → sp = zI 4) ∧ (zI 50 < x2 → sp = zI 4) ∧ (¬ x2 < zI 1 → ¬ zI 50 < x2 → sp = x2) ∧ ∃ k : Nat, 1 ≤ k ∧ k ≤ 50 ∧ sp = nI k := by
    by_cases c1 : x2 < zI 1
    · exact ⟨zI 4, fun _ => rfl, fun _ => rfl, fun h => absurd c1 h, 4, by omega, by omega, by decide⟩
    · by_cases c2 : zI 50 < x2
      · exact ⟨zI 4, fun h => absurd h c1, fun _ => rfl, fun _ h => absurd c2 h, 4, by omega, by omega, by decide⟩
      · have e1 : (zI 1).toInt = 1 := by decide
        have e2 : (zI 50).toInt = 50 := by decide
        refine ⟨x2, fun h => absurd h c1, fun h => absurd h c2, fun _ _ => rfl, ?_⟩
        rw [Int32.lt_iff_toInt_lt] at c1 c2
        have c0 : ¬ x2 < 0 := by
          rw [Int32.lt_iff_toInt_lt]
          have e0 : (0 : Int32).toInt = 0 := by decide
          omega
        obtain ⟨j, hj, rfl⟩ := nI_of c0
        rw [nI_toInt hj] at c1 c2
        exact ⟨j, by omega, by omega, rfl⟩
  obtain ⟨b, a1, a2, a3, a4, a5⟩ := h1
  obtain ⟨sp, b1, b2, b3, b4⟩ := h2
  exact ⟨b, sp, a1, a2, a3, a4, a5, b1, b2, b3, b4⟩
def xA (q : List Nat) : Nat → Nat := fun k => q.getD k 0
def xC (d : ClassId) (q : List ClassId) : Nat → ClassId := fun k => q.getD k d
def xN (b : Nat) : Nat → Nat := fun k => match k with
  | 7 => b
  | 8 => b
  | 9 => 4 * (b - 3)
  | 10 => 3
  | 11 => 3
  | 12 => 3
  | _ => 4 * b
def XU0 (b : Nat) (sp : Int32) (f : Nat → Int32) : XU := (sp, zI (-1), nI b, 0, 0, 0, 0, (fun _ => 0), (fun _ => 0), (fun _ => 0), (fun _ => 0), (fun _ => 0), (fun _ => 0), f, (fun _ => 0), (fun _ => 0), (fun _ => 0))
def mN : Nat → Nat := fun k => match k with
  | 5 => 12
  | 6 => 3
  | 7 => 3
  | 8 => 3
  | _ => 48
def MU0 (b : Nat) (sp : Int32) (f : Nat → Int32) : MU := (nI b, sp, 0, zI (-1), 0, 0, 0, 0, f, (fun _ => 0), (fun _ => 0), (fun _ => 0), (fun _ => 0), (fun _ => 0), (fun _ => 0), (fun _ => 0))
theorem in_X2_init_X1 : ∀ w ∈ u_ws RX1 TX1 11, w ∈ wsX2_init := fun _ h => List.mem_cons_of_mem _ (List.mem_append_left _ (List.mem_append_left _ (List.mem_append_right _ h)))
theorem in_X2_init_X2 : ∀ w ∈ u_ws RX2 TX2 4, w ∈ wsX2_init := fun _ h => List.mem_cons_of_mem _ (List.mem_append_left _ (List.mem_append_right _ h))
theorem in_X2_init_X0 : ∀ w ∈ u_ws RX0 TX0 4, w ∈ wsX2_init := fun _ h => List.mem_cons_of_mem _ (List.mem_append_right _ h)
abbrev rmX2_init : Room := { frames := 2, cells := 12, slots := 276, locals := 34 }
set_option maxHeartbeats 4000000 in
set_option maxRecDepth 100000 in
theorem kX2_init (l : Launch) (D : va_G) (h0 sz : Nat) (x1 x2 : Int32) (b : Nat) (sp : Int32) (hc : cRel x1 x2 b sp) : Met l yX2_init wsX2_init rmX2_init (va_Pc [.ref h0, .int x1, .int x2] (fun U => U.heap.size = sz ∧ XNW U ∧ va_P D vwCl [(h0, .inr (2, [.null, .null, .int 0, .int 0]))] U.heap ∧ va_K D vwCl [] U ∧ va_D (fun _ => True) [(h0, .inr (2, [.null, .null, .int 0, .int 0]))])) (va_Qv (fun _ : Unit => True) (fun _ t => ∃ (a : Nat → Nat) (cA : Nat → ClassId) (f : Nat → Int32), a 0 = h0 ∧ (∀ j, j < 4 * (b - 3) → f j = zI (-1)) ∧ va_P D vwCl (XW a (xN b) cA (XU0 b sp f)) t.heap ∧ va_K D vwCl (XT cA) t ∧ va_D (va_A [(h0, .inr (2, [.null, .null, .int 0, .int 0]))] sz) (XW a (xN b) cA (XU0 b sp f))) (va_A [(h0, .inr (2, [.null, .null, .int 0, .int 0]))] sz)) 12 276 (va_A [(h0, .inr (2, [.null, .null, .int 0, .int 0]))] sz) := by
  obtain ⟨hb5, hb12, hB1, hB2, hB3, hS1, hS2, hS3, hk⟩ := hc
  refine Met.ofW (cc := cX2_init) (maxL := 5) (ret := none) (by decide) rfl ?_
  intro p e s m args below meth c s₁ B hml hv
  obtain ⟨rfl, hsz, hN, hP, hK, hD0⟩ := hv
  have hx := B.exec
  have hb := B.bytes
  have hr := B.returns
  have hts := atoms_spec (ws := wsX2_init) B.pre
  have hown : s.vm.findClass RX2 = some m.cls := findClass_of_methodNamed B.named
  have hlocks := B.notSynchronized
  have hin : meth.name = "<init>" := (name_of_methodNamed B.named B.method).1
  subst hsz
  have hD := hD0.self (sz := s.heap.size)
  generalize hAe : va_A [(h0, .inr (2, [.null, .null, .int 0, .int 0]))] s.heap.size = A at hD ⊢
  have hA : ∀ q : Nat, s.heap.size ≤ q → A q := fun q h => by rw [← hAe]; exact Or.inr h
  have hS : va_S A s.heap s.heap [] := va_S.rf
  have hP : va_P D vwCl [(h0, .inr (2, [.null, .null, .int 0, .int 0]))] s.heap := hP
  have hl := lv_entry ([.ref h0, .int x1, .int x2]) (n := 5) (Nat.le_of_ble_eq_true rfl)
  rw [lg_entry_eq]
  generalize (lg_sl ([.ref h0, .int x1, .int x2]) ++ List.replicate (5 - (lg_sl ([.ref h0, .int x1, .int x2])).length) Slot.unset).toArray = ls at hl ⊢
  have hl : lv_has ls 5 [(0, .ref h0), (1, .int x1), (2, .int x2)] := hl
  refine lv_aload_n hx hb dX2_init_0 rfl (lv_at hl 0 rfl) ?_
  refine W.objInit hx hb hown (hts _ (List.mem_of_getElem? (i := 1) rfl)) (hts _ (List.mem_of_getElem? (i := 2) rfl)) (hts _ (List.mem_of_getElem? (i := 3) rfl)) rfl (by rw [hml]; exact hl.1) rfl dX2_init_1 (Nat.le_of_ble_eq_true rfl) (Nat.le_of_ble_eq_true rfl) ?_
  refine W.eq (g2 := F0 m 4 ls []) rfl ?_
  have r39 : ∀ (v3 v4 : Int32) (ls : Array Slot), lv_has ls 5 [(0, .ref h0), (1, .int x1), (2, .int x2), (3, .int v3), (4, .int v4)] → (v3 = zI 0 ∧ b = 8 ∨ v3 = zI 1 ∧ x1 = nI b) → (v4 = zI 0 ∧ sp = zI 4 ∨ v4 = zI 1 ∧ sp = x2) → W p l e (headSpec wsX2_init rmX2_init).room s m (List.toArray [.ref h0, .int x1, .int x2]) below meth c s.heap [] 0 0 (MQ below (va_Qv (fun _ : Unit => True) (fun _ t => ∃ (a : Nat → Nat) (cA : Nat → ClassId) (f : Nat → Int32), a 0 = h0 ∧ (∀ j, j < 4 * (b - 3) → f j = zI (-1)) ∧ va_P D vwCl (XW a (xN b) cA (XU0 b sp f)) t.heap ∧ va_K D vwCl (XT cA) t ∧ va_D A (XW a (xN b) cA (XU0 b sp f))) A) (List.toArray [.ref h0, .int x1, .int x2]) s 12 276 A) (F0 m 39 ls []) := by
    intro v3 v4 ls hl h3 h4
    refine lv_aload_n hx hb dX2_init_39 rfl (lv_at hl 0 rfl) ?_
    refine va_new (ci := 1) (fs := [.int 0, .null, .null, .null, .null, .null, .null, .null, .int 0, .int 0, .int 0]) (C := RX1) (T := TX1) (N := 11) hx hb hts in_X2_init_X1 tyX1 tyX1_ok hown (hts _ (List.mem_of_getElem? (i := 4) rfl)) (hts _ (List.mem_of_getElem? (i := 5) rfl)) (hts _ (List.mem_of_getElem? (i := 6) rfl)) hK hP hD hS hA rfl (fun j hj => by rcases (show j = 0 ∨ j = 1 ∨ j = 2 ∨ j = 3 ∨ j = 4 ∨ j = 5 ∨ j = 6 ∨ j = 7 ∨ j = 8 ∨ j = 9 ∨ j = 10 by omega) with rfl | rfl | rfl | rfl | rfl | rfl | rfl | rfl | rfl | rfl | rfl <;> rfl) (Nat.le_of_ble_eq_true rfl) (Nat.le_of_ble_eq_true rfl) dX2_init_40 (fun q1 H hP hD hS => ?_)
    have hP : va_P D vwCl [(h0, .inr (2, [.null, .null, .int 0, .int 0])), (q1, .inr (1, [.int 0, .null, .null, .null, .null, .null, .null, .null, .int 0, .int 0, .int 0]))] H := hP
    have hD : va_D A [(h0, .inr (2, [.null, .null, .int 0, .int 0])), (q1, .inr (1, [.int 0, .null, .null, .null, .null, .null, .null, .null, .int 0, .int 0, .int 0]))] := hD
    refine W.widen (k := 1) (n := 11) (by omega) (by omega) ?_
    refine lv_dup hx hb dX2_init_43 rfl ?_
    refine lv_iload_n hx hb dX2_init_44 rfl (lv_at hl 3 rfl) ?_
    have r54 : W p l e (headSpec wsX2_init rmX2_init).room s m (List.toArray [.ref h0, .int x1, .int x2]) below meth c H [] 1 11 (MQ below (va_Qv (fun _ : Unit => True) (fun _ t => ∃ (a : Nat → Nat) (cA : Nat → ClassId) (f : Nat → Int32), a 0 = h0 ∧ (∀ j, j < 4 * (b - 3) → f j = zI (-1)) ∧ va_P D vwCl (XW a (xN b) cA (XU0 b sp f)) t.heap ∧ va_K D vwCl (XT cA) t ∧ va_D A (XW a (xN b) cA (XU0 b sp f))) A) (List.toArray [.ref h0, .int x1, .int x2]) s 12 276 A) (F0 m 54 ls [.int (nI b), .ref q1, .ref q1, .ref h0]) := by
      have hPc := hP.sub (ws' := [(q1, .inr (1, [.int 0, .null, .null, .null, .null, .null, .null, .null, .int 0, .int 0, .int 0]))]) [1] rfl
      have hDc := hD.sub (ws' := [(q1, .inr (1, [.int 0, .null, .null, .null, .null, .null, .null, .null, .int 0, .int 0, .int 0]))]) [1] (by decide) rfl
      have hKc := hK.sub (tys' := []) [] rfl
      have hFc := va_free (wc := [(q1, .inr (1, [.int 0, .null, .null, .null, .null, .null, .null, .null, .int 0, .int 0, .int 0]))]) hD hS hA [1] rfl
      refine va_callv (va_runI (As := [.int (nI b)]) (rest := [.ref q1, .ref h0]) ⟨hx, hb, hml, hown, hts⟩ (kX1_init l D q1 H.size b hb5 hb12) (cwI 1 hts gX2_init_X1_init rfl rfl rfl (hts _ (List.mem_of_getElem? (i := 6) rfl)) (hts _ (List.mem_of_getElem? (i := 14) rfl)) (hts _ (List.mem_of_getElem? (i := 15) rfl)) rfl (by decide +kernel) ⟨Nat.le_of_ble_eq_true rfl, Nat.le_of_ble_eq_true rfl⟩) ⟨fun a S g mk q => by obtain ⟨z0, z1, z2, qP, qK, qD⟩ := q; exact ⟨z0, z1, XNW.same (u := S) (U := S.calling g mk a) rfl z2, qP, va_K.moved (u := S) (U := S.calling g mk a) (Vm.Alike.refl S.vm) qK, qD⟩, fun S hU hW => ⟨rfl, by rw [hU], XNW.warm hW hN, by rw [hU]; exact hPc, va_K.moved hW.alike hKc, hDc.weaken (fun _ _ _ _ => trivial)⟩⟩ rfl rfl hl.1 rfl (lv_room (Nat.le_of_ble_eq_true rfl)) dX2_init_54 ⟨Nat.le_of_ble_eq_true rfl, Nat.le_of_ble_eq_true rfl⟩) hS (fun q _ h => hFc q h) hFc (fun u t H1 locs ht hvm hw hB hz1 hk1 hS => ?_)
      obtain ⟨p1, p2, p3, p4, p5, p6, p7, e1, e2, e3, e4, e5, e6, e7, f, hf, hP1, hK1, hD1⟩ := hB
      rw [ht] at hP1
      have hK1 := va_K.moved hvm.symm hK1
      obtain ⟨hP, hD⟩ := va_join (wr := [(h0, .inr (2, [.null, .null, .int 0, .int 0]))]) (w1 := [(q1, .inr (1, [.int (nI b), .ref p1, .ref p2, .ref p3, .ref p4, .ref p5, .ref p6, .ref p7, .int 0, .int 0, .int 0])), (p1, .inl (e1, 4 * b, .inl (fun _ => 0))), (p2, .inl (e2, 4 * b, .inl (fun _ => 0))), (p3, .inl (e3, 4 * b, .inl (fun _ => 0))), (p4, .inl (e4, 4 * b, .inl (fun _ => 0))), (p5, .inl (e5, b, .inl (fun _ => 0))), (p6, .inl (e6, b, .inl (fun _ => 0))), (p7, .inl (e7, 4 * (b - 3), .inl f))]) hP hD [1] [0] rfl rfl (by decide) (by decide) hk1 hFc hP1 hD1
      have hK := (hK.sub (tys' := []) [] rfl).app hK1
      generalize H1 = H at hP hS ⊢
      have hP : va_P D vwCl [(h0, .inr (2, [.null, .null, .int 0, .int 0])), (q1, .inr (1, [.int (nI b), .ref p1, .ref p2, .ref p3, .ref p4, .ref p5, .ref p6, .ref p7, .int 0, .int 0, .int 0])), (p1, .inl (e1, 4 * b, .inl (fun _ => 0))), (p2, .inl (e2, 4 * b, .inl (fun _ => 0))), (p3, .inl (e3, 4 * b, .inl (fun _ => 0))), (p4, .inl (e4, 4 * b, .inl (fun _ => 0))), (p5, .inl (e5, b, .inl (fun _ => 0))), (p6, .inl (e6, b, .inl (fun _ => 0))), (p7, .inl (e7, 4 * (b - 3), .inl f))] H := hP
      have hD : va_D A [(h0, .inr (2, [.null, .null, .int 0, .int 0])), (q1, .inr (1, [.int (nI b), .ref p1, .ref p2, .ref p3, .ref p4, .ref p5, .ref p6, .ref p7, .int 0, .int 0, .int 0])), (p1, .inl (e1, 4 * b, .inl (fun _ => 0))), (p2, .inl (e2, 4 * b, .inl (fun _ => 0))), (p3, .inl (e3, 4 * b, .inl (fun _ => 0))), (p4, .inl (e4, 4 * b, .inl (fun _ => 0))), (p5, .inl (e5, b, .inl (fun _ => 0))), (p6, .inl (e6, b, .inl (fun _ => 0))), (p7, .inl (e7, 4 * (b - 3), .inl f))] := hD
      have hK : va_K D vwCl [(e1, .int), (e2, .int), (e3, .int), (e4, .int), (e5, .int), (e6, .int), (e7, .int)] s := hK
      refine W.widen (k := 8) (n := 263) (by omega) (by omega) ?_
      refine va_putF (D := D) (ci := 2) (v := .ref q1) (ty := .object "WornFlash$Flash") (C := RX2) (T := TX2) (N := 4) hx hb hts in_X2_init_X2 tyX2 tyX2_ok nmX2 hown hK hP hD hS 0 rfl rfl 0 (by decide) (hts _ (List.mem_of_getElem? (i := 7) rfl)) (fun _ h9 => h9) rfl hin rfl (by decide +kernel) rfl rfl (Nat.le_of_ble_eq_true rfl) dX2_init_57 (fun H locs hP hD hS => ?_)
      have hP : va_P D vwCl [(h0, .inr (2, [.ref q1, .null, .int 0, .int 0])), (q1, .inr (1, [.int (nI b), .ref p1, .ref p2, .ref p3, .ref p4, .ref p5, .ref p6, .ref p7, .int 0, .int 0, .int 0])), (p1, .inl (e1, 4 * b, .inl (fun _ => 0))), (p2, .inl (e2, 4 * b, .inl (fun _ => 0))), (p3, .inl (e3, 4 * b, .inl (fun _ => 0))), (p4, .inl (e4, 4 * b, .inl (fun _ => 0))), (p5, .inl (e5, b, .inl (fun _ => 0))), (p6, .inl (e6, b, .inl (fun _ => 0))), (p7, .inl (e7, 4 * (b - 3), .inl f))] H := hP
      have hD : va_D A [(h0, .inr (2, [.ref q1, .null, .int 0, .int 0])), (q1, .inr (1, [.int (nI b), .ref p1, .ref p2, .ref p3, .ref p4, .ref p5, .ref p6, .ref p7, .int 0, .int 0, .int 0])), (p1, .inl (e1, 4 * b, .inl (fun _ => 0))), (p2, .inl (e2, 4 * b, .inl (fun _ => 0))), (p3, .inl (e3, 4 * b, .inl (fun _ => 0))), (p4, .inl (e4, 4 * b, .inl (fun _ => 0))), (p5, .inl (e5, b, .inl (fun _ => 0))), (p6, .inl (e6, b, .inl (fun _ => 0))), (p7, .inl (e7, 4 * (b - 3), .inl f))] := hD
      refine lv_aload_n hx hb dX2_init_60 rfl (lv_at hl 0 rfl) ?_
      refine va_new (ci := 0) (fs := [.null, .null, .null, .int 0]) (C := RX0) (T := TX0) (N := 4) hx hb hts in_X2_init_X0 tyX0 tyX0_ok hown (hts _ (List.mem_of_getElem? (i := 8) rfl)) (hts _ (List.mem_of_getElem? (i := 9) rfl)) (hts _ (List.mem_of_getElem? (i := 10) rfl)) hK hP hD hS hA rfl (fun j hj => by rcases (show j = 0 ∨ j = 1 ∨ j = 2 ∨ j = 3 by omega) with rfl | rfl | rfl | rfl <;> rfl) (Nat.le_of_ble_eq_true rfl) (Nat.le_of_ble_eq_true rfl) dX2_init_61 (fun q2 H hP hD hS => ?_)
      have hP : va_P D vwCl [(h0, .inr (2, [.ref q1, .null, .int 0, .int 0])), (q1, .inr (1, [.int (nI b), .ref p1, .ref p2, .ref p3, .ref p4, .ref p5, .ref p6, .ref p7, .int 0, .int 0, .int 0])), (p1, .inl (e1, 4 * b, .inl (fun _ => 0))), (p2, .inl (e2, 4 * b, .inl (fun _ => 0))), (p3, .inl (e3, 4 * b, .inl (fun _ => 0))), (p4, .inl (e4, 4 * b, .inl (fun _ => 0))), (p5, .inl (e5, b, .inl (fun _ => 0))), (p6, .inl (e6, b, .inl (fun _ => 0))), (p7, .inl (e7, 4 * (b - 3), .inl f)), (q2, .inr (0, [.null, .null, .null, .int 0]))] H := hP
      have hD : va_D A [(h0, .inr (2, [.ref q1, .null, .int 0, .int 0])), (q1, .inr (1, [.int (nI b), .ref p1, .ref p2, .ref p3, .ref p4, .ref p5, .ref p6, .ref p7, .int 0, .int 0, .int 0])), (p1, .inl (e1, 4 * b, .inl (fun _ => 0))), (p2, .inl (e2, 4 * b, .inl (fun _ => 0))), (p3, .inl (e3, 4 * b, .inl (fun _ => 0))), (p4, .inl (e4, 4 * b, .inl (fun _ => 0))), (p5, .inl (e5, b, .inl (fun _ => 0))), (p6, .inl (e6, b, .inl (fun _ => 0))), (p7, .inl (e7, 4 * (b - 3), .inl f)), (q2, .inr (0, [.null, .null, .null, .int 0]))] := hD
      refine W.widen (k := 9) (n := 267) (by omega) (by omega) ?_
      refine lv_dup hx hb dX2_init_64 rfl ?_
      have hPc := hP.sub (ws' := [(q2, .inr (0, [.null, .null, .null, .int 0]))]) [9] rfl
      have hDc := hD.sub (ws' := [(q2, .inr (0, [.null, .null, .null, .int 0]))]) [9] (by decide) rfl
      have hKc := hK.sub (tys' := []) [] rfl
      have hFc := va_free (wc := [(q2, .inr (0, [.null, .null, .null, .int 0]))]) hD hS hA [9] rfl
      refine va_callv (va_runIN (As := []) (rest := [.ref q2, .ref h0]) ⟨hx, hb, hml, hown, hts⟩ (kX0_init l D q2 H.size) ⟨va_cnB 0 hts gX2_init_X0_init_n20 rfl rfl rfl hN.2 (hts _ (List.mem_of_getElem? (i := 10) rfl)) (by decide +kernel) ⟨Nat.le_of_ble_eq_true rfl, Nat.le_of_ble_eq_true rfl⟩, rfl, hts _ (List.mem_of_getElem? (i := 27) rfl)⟩ ⟨fun a S g mk q => by obtain ⟨z0, z1, z2, qP, qK, qD⟩ := q; exact ⟨z0, z1, XNW.same (u := S) (U := S.calling g mk a) rfl z2, qP, va_K.moved (u := S) (U := S.calling g mk a) (Vm.Alike.refl S.vm) qK, qD⟩, fun S hU hW => ⟨rfl, by rw [hU], XNW.warm hW hN, by rw [hU]; exact hPc, va_K.moved hW.alike hKc, hDc.weaken (fun _ _ _ _ => trivial)⟩⟩ rfl rfl hl.1 rfl (lv_room (Nat.le_of_ble_eq_true rfl)) dX2_init_65 ⟨Nat.le_of_ble_eq_true rfl, Nat.le_of_ble_eq_true rfl⟩) hS (fun q _ h => hFc q h) hFc (fun u t H1 locs ht hvm hw hB hz1 hk1 hS => ?_)
      obtain ⟨r1, r2, r3, d1, d2, d3, hP1, hK1, hD1⟩ := hB
      rw [ht] at hP1
      have hK1 := va_K.moved hvm.symm hK1
      obtain ⟨hP, hD⟩ := va_join (wr := [(h0, .inr (2, [.ref q1, .null, .int 0, .int 0])), (q1, .inr (1, [.int (nI b), .ref p1, .ref p2, .ref p3, .ref p4, .ref p5, .ref p6, .ref p7, .int 0, .int 0, .int 0])), (p1, .inl (e1, 4 * b, .inl (fun _ => 0))), (p2, .inl (e2, 4 * b, .inl (fun _ => 0))), (p3, .inl (e3, 4 * b, .inl (fun _ => 0))), (p4, .inl (e4, 4 * b, .inl (fun _ => 0))), (p5, .inl (e5, b, .inl (fun _ => 0))), (p6, .inl (e6, b, .inl (fun _ => 0))), (p7, .inl (e7, 4 * (b - 3), .inl f))]) (w1 := [(q2, .inr (0, [.ref r1, .ref r2, .ref r3, .int 0])), (r1, .inl (d1, 3, .inl (fun _ => 0))), (r2, .inl (d2, 3, .inl (fun _ => 0))), (r3, .inl (d3, 3, .inl (fun _ => 0)))]) hP hD [9] [0, 1, 2, 3, 4, 5, 6, 7, 8] rfl rfl (by decide) (by decide) hk1 hFc hP1 hD1
      have hK := hK.app hK1
      generalize H1 = H at hP hS ⊢
      have hP : va_P D vwCl [(h0, .inr (2, [.ref q1, .null, .int 0, .int 0])), (q1, .inr (1, [.int (nI b), .ref p1, .ref p2, .ref p3, .ref p4, .ref p5, .ref p6, .ref p7, .int 0, .int 0, .int 0])), (p1, .inl (e1, 4 * b, .inl (fun _ => 0))), (p2, .inl (e2, 4 * b, .inl (fun _ => 0))), (p3, .inl (e3, 4 * b, .inl (fun _ => 0))), (p4, .inl (e4, 4 * b, .inl (fun _ => 0))), (p5, .inl (e5, b, .inl (fun _ => 0))), (p6, .inl (e6, b, .inl (fun _ => 0))), (p7, .inl (e7, 4 * (b - 3), .inl f)), (q2, .inr (0, [.ref r1, .ref r2, .ref r3, .int 0])), (r1, .inl (d1, 3, .inl (fun _ => 0))), (r2, .inl (d2, 3, .inl (fun _ => 0))), (r3, .inl (d3, 3, .inl (fun _ => 0)))] H := hP
      have hD : va_D A [(h0, .inr (2, [.ref q1, .null, .int 0, .int 0])), (q1, .inr (1, [.int (nI b), .ref p1, .ref p2, .ref p3, .ref p4, .ref p5, .ref p6, .ref p7, .int 0, .int 0, .int 0])), (p1, .inl (e1, 4 * b, .inl (fun _ => 0))), (p2, .inl (e2, 4 * b, .inl (fun _ => 0))), (p3, .inl (e3, 4 * b, .inl (fun _ => 0))), (p4, .inl (e4, 4 * b, .inl (fun _ => 0))), (p5, .inl (e5, b, .inl (fun _ => 0))), (p6, .inl (e6, b, .inl (fun _ => 0))), (p7, .inl (e7, 4 * (b - 3), .inl f)), (q2, .inr (0, [.ref r1, .ref r2, .ref r3, .int 0])), (r1, .inl (d1, 3, .inl (fun _ => 0))), (r2, .inl (d2, 3, .inl (fun _ => 0))), (r3, .inl (d3, 3, .inl (fun _ => 0)))] := hD
      have hK : va_K D vwCl [(e1, .int), (e2, .int), (e3, .int), (e4, .int), (e5, .int), (e6, .int), (e7, .int), (d1, .int), (d2, .int), (d3, .int)] s := hK
      refine W.widen (k := 12) (n := 276) (by omega) (by omega) ?_
      refine va_putF (D := D) (ci := 2) (v := .ref q2) (ty := .object "WornFlash$Buffer") (C := RX2) (T := TX2) (N := 4) hx hb hts in_X2_init_X2 tyX2 tyX2_ok nmX2 hown hK hP hD hS 0 rfl rfl 1 (by decide) (hts _ (List.mem_of_getElem? (i := 11) rfl)) (fun _ h9 => h9) rfl hin rfl (by decide +kernel) rfl rfl (Nat.le_of_ble_eq_true rfl) dX2_init_68 (fun H locs hP hD hS => ?_)
      have hP : va_P D vwCl [(h0, .inr (2, [.ref q1, .ref q2, .int 0, .int 0])), (q1, .inr (1, [.int (nI b), .ref p1, .ref p2, .ref p3, .ref p4, .ref p5, .ref p6, .ref p7, .int 0, .int 0, .int 0])), (p1, .inl (e1, 4 * b, .inl (fun _ => 0))), (p2, .inl (e2, 4 * b, .inl (fun _ => 0))), (p3, .inl (e3, 4 * b, .inl (fun _ => 0))), (p4, .inl (e4, 4 * b, .inl (fun _ => 0))), (p5, .inl (e5, b, .inl (fun _ => 0))), (p6, .inl (e6, b, .inl (fun _ => 0))), (p7, .inl (e7, 4 * (b - 3), .inl f)), (q2, .inr (0, [.ref r1, .ref r2, .ref r3, .int 0])), (r1, .inl (d1, 3, .inl (fun _ => 0))), (r2, .inl (d2, 3, .inl (fun _ => 0))), (r3, .inl (d3, 3, .inl (fun _ => 0)))] H := hP
      have hD : va_D A [(h0, .inr (2, [.ref q1, .ref q2, .int 0, .int 0])), (q1, .inr (1, [.int (nI b), .ref p1, .ref p2, .ref p3, .ref p4, .ref p5, .ref p6, .ref p7, .int 0, .int 0, .int 0])), (p1, .inl (e1, 4 * b, .inl (fun _ => 0))), (p2, .inl (e2, 4 * b, .inl (fun _ => 0))), (p3, .inl (e3, 4 * b, .inl (fun _ => 0))), (p4, .inl (e4, 4 * b, .inl (fun _ => 0))), (p5, .inl (e5, b, .inl (fun _ => 0))), (p6, .inl (e6, b, .inl (fun _ => 0))), (p7, .inl (e7, 4 * (b - 3), .inl f)), (q2, .inr (0, [.ref r1, .ref r2, .ref r3, .int 0])), (r1, .inl (d1, 3, .inl (fun _ => 0))), (r2, .inl (d2, 3, .inl (fun _ => 0))), (r3, .inl (d3, 3, .inl (fun _ => 0)))] := hD
      refine lv_aload_n hx hb dX2_init_71 rfl (lv_at hl 0 rfl) ?_
      have r82 : W p l e (headSpec wsX2_init rmX2_init).room s m (List.toArray [.ref h0, .int x1, .int x2]) below meth c H locs 12 276 (MQ below (va_Qv (fun _ : Unit => True) (fun _ t => ∃ (a : Nat → Nat) (cA : Nat → ClassId) (f : Nat → Int32), a 0 = h0 ∧ (∀ j, j < 4 * (b - 3) → f j = zI (-1)) ∧ va_P D vwCl (XW a (xN b) cA (XU0 b sp f)) t.heap ∧ va_K D vwCl (XT cA) t ∧ va_D A (XW a (xN b) cA (XU0 b sp f))) A) (List.toArray [.ref h0, .int x1, .int x2]) s 12 276 A) (F0 m 82 ls [.int sp, .ref h0]) := by
        refine va_putF (D := D) (ci := 2) (v := .int sp) (ty := .int) (C := RX2) (T := TX2) (N := 4) hx hb hts in_X2_init_X2 tyX2 tyX2_ok nmX2 hown hK hP hD hS 0 rfl rfl 2 (by decide) (hts _ (List.mem_of_getElem? (i := 12) rfl)) (fun _ h9 => h9) rfl hin rfl (by decide +kernel) rfl rfl (Nat.le_of_ble_eq_true rfl) dX2_init_82 (fun H locs hP hD hS => ?_)
        have hP : va_P D vwCl [(h0, .inr (2, [.ref q1, .ref q2, .int sp, .int 0])), (q1, .inr (1, [.int (nI b), .ref p1, .ref p2, .ref p3, .ref p4, .ref p5, .ref p6, .ref p7, .int 0, .int 0, .int 0])), (p1, .inl (e1, 4 * b, .inl (fun _ => 0))), (p2, .inl (e2, 4 * b, .inl (fun _ => 0))), (p3, .inl (e3, 4 * b, .inl (fun _ => 0))), (p4, .inl (e4, 4 * b, .inl (fun _ => 0))), (p5, .inl (e5, b, .inl (fun _ => 0))), (p6, .inl (e6, b, .inl (fun _ => 0))), (p7, .inl (e7, 4 * (b - 3), .inl f)), (q2, .inr (0, [.ref r1, .ref r2, .ref r3, .int 0])), (r1, .inl (d1, 3, .inl (fun _ => 0))), (r2, .inl (d2, 3, .inl (fun _ => 0))), (r3, .inl (d3, 3, .inl (fun _ => 0)))] H := hP
        have hD : va_D A [(h0, .inr (2, [.ref q1, .ref q2, .int sp, .int 0])), (q1, .inr (1, [.int (nI b), .ref p1, .ref p2, .ref p3, .ref p4, .ref p5, .ref p6, .ref p7, .int 0, .int 0, .int 0])), (p1, .inl (e1, 4 * b, .inl (fun _ => 0))), (p2, .inl (e2, 4 * b, .inl (fun _ => 0))), (p3, .inl (e3, 4 * b, .inl (fun _ => 0))), (p4, .inl (e4, 4 * b, .inl (fun _ => 0))), (p5, .inl (e5, b, .inl (fun _ => 0))), (p6, .inl (e6, b, .inl (fun _ => 0))), (p7, .inl (e7, 4 * (b - 3), .inl f)), (q2, .inr (0, [.ref r1, .ref r2, .ref r3, .int 0])), (r1, .inl (d1, 3, .inl (fun _ => 0))), (r2, .inl (d2, 3, .inl (fun _ => 0))), (r3, .inl (d3, 3, .inl (fun _ => 0)))] := hD
        refine lv_aload_n hx hb dX2_init_85 rfl (lv_at hl 0 rfl) ?_
        refine lv_iconst (v := zI (-1)) hx hb dX2_init_86 (by decide) ?_
        refine va_put (D := D) (ci := 2) (v := .int (zI (-1))) (ty := .int) (C := RX2) (T := TX2) (N := 4) hx hb hts in_X2_init_X2 tyX2 tyX2_ok nmX2 hown hK hP hD hS 0 rfl rfl 3 (by decide) (hts _ (List.mem_of_getElem? (i := 13) rfl)) (fun _ h9 => h9) rfl (by decide +kernel) rfl rfl (Nat.le_of_ble_eq_true rfl) dX2_init_87 (fun H locs hP hD hS => ?_)
        have hP : va_P D vwCl [(h0, .inr (2, [.ref q1, .ref q2, .int sp, .int (zI (-1))])), (q1, .inr (1, [.int (nI b), .ref p1, .ref p2, .ref p3, .ref p4, .ref p5, .ref p6, .ref p7, .int 0, .int 0, .int 0])), (p1, .inl (e1, 4 * b, .inl (fun _ => 0))), (p2, .inl (e2, 4 * b, .inl (fun _ => 0))), (p3, .inl (e3, 4 * b, .inl (fun _ => 0))), (p4, .inl (e4, 4 * b, .inl (fun _ => 0))), (p5, .inl (e5, b, .inl (fun _ => 0))), (p6, .inl (e6, b, .inl (fun _ => 0))), (p7, .inl (e7, 4 * (b - 3), .inl f)), (q2, .inr (0, [.ref r1, .ref r2, .ref r3, .int 0])), (r1, .inl (d1, 3, .inl (fun _ => 0))), (r2, .inl (d2, 3, .inl (fun _ => 0))), (r3, .inl (d3, 3, .inl (fun _ => 0)))] H := hP
        have hD : va_D A [(h0, .inr (2, [.ref q1, .ref q2, .int sp, .int (zI (-1))])), (q1, .inr (1, [.int (nI b), .ref p1, .ref p2, .ref p3, .ref p4, .ref p5, .ref p6, .ref p7, .int 0, .int 0, .int 0])), (p1, .inl (e1, 4 * b, .inl (fun _ => 0))), (p2, .inl (e2, 4 * b, .inl (fun _ => 0))), (p3, .inl (e3, 4 * b, .inl (fun _ => 0))), (p4, .inl (e4, 4 * b, .inl (fun _ => 0))), (p5, .inl (e5, b, .inl (fun _ => 0))), (p6, .inl (e6, b, .inl (fun _ => 0))), (p7, .inl (e7, 4 * (b - 3), .inl f)), (q2, .inr (0, [.ref r1, .ref r2, .ref r3, .int 0])), (r1, .inl (d1, 3, .inl (fun _ => 0))), (r2, .inl (d2, 3, .inl (fun _ => 0))), (r3, .inl (d3, 3, .inl (fun _ => 0)))] := hD
        have hP9 := hP.sub (ws' := XW (xA [h0, q1, q2, p1, p2, p3, p4, p5, p6, p7, r1, r2, r3]) (xN b) (xC e1 [e1, e1, e1, e1, e2, e3, e4, e5, e6, e7, d1, d2, d3]) (XU0 b sp f)) [0, 1, 9, 2, 3, 4, 5, 6, 7, 8, 10, 11, 12] rfl
        have hD9 := hD.sub (ws' := XW (xA [h0, q1, q2, p1, p2, p3, p4, p5, p6, p7, r1, r2, r3]) (xN b) (xC e1 [e1, e1, e1, e1, e2, e3, e4, e5, e6, e7, d1, d2, d3]) (XU0 b sp f)) [0, 1, 9, 2, 3, 4, 5, 6, 7, 8, 10, 11, 12] (by decide) rfl
        have hK9 : va_K D vwCl (XT (xC e1 [e1, e1, e1, e1, e2, e3, e4, e5, e6, e7, d1, d2, d3])) s := hK
        exact W.vret hx hb hr (fun t ht hW => ⟨⟨(), rfl, trivial, (xA [h0, q1, q2, p1, p2, p3, p4, p5, p6, p7, r1, r2, r3]), (xC e1 [e1, e1, e1, e1, e2, e3, e4, e5, e6, e7, d1, d2, d3]), f, rfl, hf, by rw [ht]; exact hP9, va_K.moved hW.alike hK9, hD9⟩, hS.F ht⟩) hS.2.2 dX2_init_90 hlocks
      refine lv_iload hx hb dX2_init_72 (lv_at hl 4 rfl) ?_
      refine lv_if_eq (tgt := 81) hx hb dX2_init_74 (by decide) (fun c1 => ?_) (fun c1 => ?_)
      · rcases h4 with ⟨h4, hs4⟩ | ⟨h4, hs4⟩
        · refine lv_iconst (v := sp) hx hb dX2_init_81 (by rw [hs4]; decide) ?_
          exact r82
        · exact absurd c1 (by rw [h4]; decide)
      · rcases h4 with ⟨h4, hs4⟩ | ⟨h4, hs4⟩
        · exact absurd (by rw [h4]; decide) c1
        · refine lv_iload_n hx hb dX2_init_77 rfl (lv_at hl 2 rfl) ?_
          refine lv_goto (tgt := 82) hx hb dX2_init_78 (by decide) ?_
          exact W.eq (g2 := F0 m 82 ls [.int sp, .ref h0]) (by rw [hs4]) r82
    refine lv_if_eq (tgt := 52) hx hb dX2_init_45 (by decide) (fun c1 => ?_) (fun c1 => ?_)
    · rcases h3 with ⟨h3, hs3⟩ | ⟨h3, hs3⟩
      · refine lv_bipush (v := nI b) hx hb dX2_init_52 (by rw [hs3]; decide) ?_
        exact r54
      · exact absurd c1 (by rw [h3]; decide)
    · rcases h3 with ⟨h3, hs3⟩ | ⟨h3, hs3⟩
      · exact absurd (by rw [h3]; decide) c1
      · refine lv_iload_n hx hb dX2_init_48 rfl (lv_at hl 1 rfl) ?_
        refine lv_goto (tgt := 54) hx hb dX2_init_49 (by decide) ?_
        exact W.eq (g2 := F0 m 54 ls [.int (nI b), .ref q1, .ref q1, .ref h0]) (by rw [hs3]) r54
  refine lv_iload_n hx hb dX2_init_4 rfl (lv_at hl 1 rfl) ?_
  refine lv_iconst (v := zI 5) hx hb dX2_init_5 (by decide) ?_
  refine lv_icmp_lt (tgt := 19) hx hb dX2_init_6 (by decide) (fun c1 => ?_) (fun c1 => ?_)
  · refine lv_iconst (v := zI 0) hx hb dX2_init_19 (by decide) ?_
    refine lv_istore_n (lv' := [(3, .int (zI 0)), (0, .ref h0), (1, .int x1), (2, .int x2)]) hx hb dX2_init_20 rfl hl (by decide) rfl (fun ls hl => ?_)
    refine lv_iload_n hx hb dX2_init_21 rfl (lv_at hl 3 rfl) ?_
    refine lv_iconst (v := zI 1) hx hb dX2_init_22 (by decide) ?_
    refine lv_icmp_lt (tgt := 36) hx hb dX2_init_23 (by decide) (fun c3 => ?_) (fun c3 => ?_)
    · refine lv_iconst (v := zI 0) hx hb dX2_init_36 (by decide) ?_
      refine lv_istore (lv' := [(4, .int (zI 0)), (3, .int (zI 0)), (0, .ref h0), (1, .int x1), (2, .int x2)]) hx hb dX2_init_37 hl (by decide) rfl (fun ls hl => ?_)
      exact r39 _ _ ls (lv_sub hl [2, 3, 4, 1, 0] rfl) (Or.inl ⟨rfl, hB1 c1⟩) (Or.inl ⟨rfl, hS1 c3⟩)
    · refine lv_iload_n hx hb dX2_init_26 rfl (lv_at hl 3 rfl) ?_
      refine lv_bipush (v := zI 50) hx hb dX2_init_27 (by decide) ?_
      refine lv_icmp_gt (tgt := 36) hx hb dX2_init_29 (by decide) (fun c4 => ?_) (fun c4 => ?_)
      · refine lv_iconst (v := zI 0) hx hb dX2_init_36 (by decide) ?_
        refine lv_istore (lv' := [(4, .int (zI 0)), (3, .int (zI 0)), (0, .ref h0), (1, .int x1), (2, .int x2)]) hx hb dX2_init_37 hl (by decide) rfl (fun ls hl => ?_)
        exact r39 _ _ ls (lv_sub hl [2, 3, 4, 1, 0] rfl) (Or.inl ⟨rfl, hB1 c1⟩) (Or.inl ⟨rfl, hS2 c4⟩)
      · refine lv_iconst (v := zI 1) hx hb dX2_init_32 (by decide) ?_
        refine lv_goto (tgt := 37) hx hb dX2_init_33 (by decide) ?_
        refine lv_istore (lv' := [(4, .int (zI 1)), (3, .int (zI 0)), (0, .ref h0), (1, .int x1), (2, .int x2)]) hx hb dX2_init_37 hl (by decide) rfl (fun ls hl => ?_)
        exact r39 _ _ ls (lv_sub hl [2, 3, 4, 1, 0] rfl) (Or.inl ⟨rfl, hB1 c1⟩) (Or.inr ⟨rfl, hS3 c3 c4⟩)
  · refine lv_iload_n hx hb dX2_init_9 rfl (lv_at hl 1 rfl) ?_
    refine lv_bipush (v := zI 12) hx hb dX2_init_10 (by decide) ?_
    refine lv_icmp_gt (tgt := 19) hx hb dX2_init_12 (by decide) (fun c2 => ?_) (fun c2 => ?_)
    · refine lv_iconst (v := zI 0) hx hb dX2_init_19 (by decide) ?_
      refine lv_istore_n (lv' := [(3, .int (zI 0)), (0, .ref h0), (1, .int x1), (2, .int x2)]) hx hb dX2_init_20 rfl hl (by decide) rfl (fun ls hl => ?_)
      refine lv_iload_n hx hb dX2_init_21 rfl (lv_at hl 3 rfl) ?_
      refine lv_iconst (v := zI 1) hx hb dX2_init_22 (by decide) ?_
      refine lv_icmp_lt (tgt := 36) hx hb dX2_init_23 (by decide) (fun c3 => ?_) (fun c3 => ?_)
      · refine lv_iconst (v := zI 0) hx hb dX2_init_36 (by decide) ?_
        refine lv_istore (lv' := [(4, .int (zI 0)), (3, .int (zI 0)), (0, .ref h0), (1, .int x1), (2, .int x2)]) hx hb dX2_init_37 hl (by decide) rfl (fun ls hl => ?_)
        exact r39 _ _ ls (lv_sub hl [2, 3, 4, 1, 0] rfl) (Or.inl ⟨rfl, hB2 c2⟩) (Or.inl ⟨rfl, hS1 c3⟩)
      · refine lv_iload_n hx hb dX2_init_26 rfl (lv_at hl 3 rfl) ?_
        refine lv_bipush (v := zI 50) hx hb dX2_init_27 (by decide) ?_
        refine lv_icmp_gt (tgt := 36) hx hb dX2_init_29 (by decide) (fun c4 => ?_) (fun c4 => ?_)
        · refine lv_iconst (v := zI 0) hx hb dX2_init_36 (by decide) ?_
          refine lv_istore (lv' := [(4, .int (zI 0)), (3, .int (zI 0)), (0, .ref h0), (1, .int x1), (2, .int x2)]) hx hb dX2_init_37 hl (by decide) rfl (fun ls hl => ?_)
          exact r39 _ _ ls (lv_sub hl [2, 3, 4, 1, 0] rfl) (Or.inl ⟨rfl, hB2 c2⟩) (Or.inl ⟨rfl, hS2 c4⟩)
        · refine lv_iconst (v := zI 1) hx hb dX2_init_32 (by decide) ?_
          refine lv_goto (tgt := 37) hx hb dX2_init_33 (by decide) ?_
          refine lv_istore (lv' := [(4, .int (zI 1)), (3, .int (zI 0)), (0, .ref h0), (1, .int x1), (2, .int x2)]) hx hb dX2_init_37 hl (by decide) rfl (fun ls hl => ?_)
          exact r39 _ _ ls (lv_sub hl [2, 3, 4, 1, 0] rfl) (Or.inl ⟨rfl, hB2 c2⟩) (Or.inr ⟨rfl, hS3 c3 c4⟩)
    · refine lv_iconst (v := zI 1) hx hb dX2_init_15 (by decide) ?_
      refine lv_goto (tgt := 20) hx hb dX2_init_16 (by decide) ?_
      refine lv_istore_n (lv' := [(3, .int (zI 1)), (0, .ref h0), (1, .int x1), (2, .int x2)]) hx hb dX2_init_20 rfl hl (by decide) rfl (fun ls hl => ?_)
      refine lv_iload_n hx hb dX2_init_21 rfl (lv_at hl 3 rfl) ?_
      refine lv_iconst (v := zI 1) hx hb dX2_init_22 (by decide) ?_
      refine lv_icmp_lt (tgt := 36) hx hb dX2_init_23 (by decide) (fun c3 => ?_) (fun c3 => ?_)
      · refine lv_iconst (v := zI 0) hx hb dX2_init_36 (by decide) ?_
        refine lv_istore (lv' := [(4, .int (zI 0)), (3, .int (zI 1)), (0, .ref h0), (1, .int x1), (2, .int x2)]) hx hb dX2_init_37 hl (by decide) rfl (fun ls hl => ?_)
        exact r39 _ _ ls (lv_sub hl [2, 3, 4, 1, 0] rfl) (Or.inr ⟨rfl, hB3 c1 c2⟩) (Or.inl ⟨rfl, hS1 c3⟩)
      · refine lv_iload_n hx hb dX2_init_26 rfl (lv_at hl 3 rfl) ?_
        refine lv_bipush (v := zI 50) hx hb dX2_init_27 (by decide) ?_
        refine lv_icmp_gt (tgt := 36) hx hb dX2_init_29 (by decide) (fun c4 => ?_) (fun c4 => ?_)
        · refine lv_iconst (v := zI 0) hx hb dX2_init_36 (by decide) ?_
          refine lv_istore (lv' := [(4, .int (zI 0)), (3, .int (zI 1)), (0, .ref h0), (1, .int x1), (2, .int x2)]) hx hb dX2_init_37 hl (by decide) rfl (fun ls hl => ?_)
          exact r39 _ _ ls (lv_sub hl [2, 3, 4, 1, 0] rfl) (Or.inr ⟨rfl, hB3 c1 c2⟩) (Or.inl ⟨rfl, hS2 c4⟩)
        · refine lv_iconst (v := zI 1) hx hb dX2_init_32 (by decide) ?_
          refine lv_goto (tgt := 37) hx hb dX2_init_33 (by decide) ?_
          refine lv_istore (lv' := [(4, .int (zI 1)), (3, .int (zI 1)), (0, .ref h0), (1, .int x1), (2, .int x2)]) hx hb dX2_init_37 hl (by decide) rfl (fun ls hl => ?_)
          exact r39 _ _ ls (lv_sub hl [2, 3, 4, 1, 0] rfl) (Or.inr ⟨rfl, hB3 c1 c2⟩) (Or.inr ⟨rfl, hS3 c3 c4⟩)
theorem in_X3_init_X3 : ∀ w ∈ u_ws RX3 TX3 16, w ∈ wsX3_init := fun _ h => List.mem_cons_of_mem _ (List.mem_append_right _ h)
abbrev rmX3_init : Room := { frames := 1, cells := 8, slots := 213, locals := 12 }
set_option maxHeartbeats 4000000 in
set_option maxRecDepth 100000 in
theorem kX3_init (l : Launch) (D : va_G) (h0 sz : Nat) (x1 x2 : Int32) (b : Nat) (sp : Int32) (hc : cRel x1 x2 b sp) : Met l yX3_init wsX3_init rmX3_init (va_Pc [.ref h0, .int x1, .int x2] (fun U => U.heap.size = sz ∧ XNW U ∧ va_P D vwCl [(h0, .inr (3, [.int 0, .int 0, .null, .null, .null, .null, .null, .int 0, .int 0, .int 0, .int 0, .int 0, .int 0, .null, .null, .null]))] U.heap ∧ va_K D vwCl [] U ∧ va_D (fun _ => True) [(h0, .inr (3, [.int 0, .int 0, .null, .null, .null, .null, .null, .int 0, .int 0, .int 0, .int 0, .int 0, .int 0, .null, .null, .null]))])) (va_Qv (fun _ : Unit => True) (fun _ t => ∃ (a : Nat → Nat) (cA : Nat → ClassId) (f : Nat → Int32), a 0 = h0 ∧ (∀ j, j < 48 → f j = zI (-1)) ∧ va_P D vwCl (MW a mN cA (MU0 b sp f)) t.heap ∧ va_K D vwCl (MT cA) t ∧ va_D (va_A [(h0, .inr (3, [.int 0, .int 0, .null, .null, .null, .null, .null, .int 0, .int 0, .int 0, .int 0, .int 0, .int 0, .null, .null, .null]))] sz) (MW a mN cA (MU0 b sp f))) (va_A [(h0, .inr (3, [.int 0, .int 0, .null, .null, .null, .null, .null, .int 0, .int 0, .int 0, .int 0, .int 0, .int 0, .null, .null, .null]))] sz)) 8 213 (va_A [(h0, .inr (3, [.int 0, .int 0, .null, .null, .null, .null, .null, .int 0, .int 0, .int 0, .int 0, .int 0, .int 0, .null, .null, .null]))] sz) := by
  obtain ⟨hb5, hb12, hB1, hB2, hB3, hS1, hS2, hS3, hk⟩ := hc
  refine Met.ofW (cc := cX3_init) (maxL := 4) (ret := none) (by decide) rfl ?_
  intro p e s m args below meth c s₁ B hml hv
  obtain ⟨rfl, hsz, hN, hP, hK, hD0⟩ := hv
  have hx := B.exec
  have hb := B.bytes
  have hr := B.returns
  have hts := atoms_spec (ws := wsX3_init) B.pre
  have hown : s.vm.findClass RX3 = some m.cls := findClass_of_methodNamed B.named
  have hlocks := B.notSynchronized
  have hin : meth.name = "<init>" := (name_of_methodNamed B.named B.method).1
  subst hsz
  have hD := hD0.self (sz := s.heap.size)
  generalize hAe : va_A [(h0, .inr (3, [.int 0, .int 0, .null, .null, .null, .null, .null, .int 0, .int 0, .int 0, .int 0, .int 0, .int 0, .null, .null, .null]))] s.heap.size = A at hD ⊢
  have hA : ∀ q : Nat, s.heap.size ≤ q → A q := fun q h => by rw [← hAe]; exact Or.inr h
  have hS : va_S A s.heap s.heap [] := va_S.rf
  have hP : va_P D vwCl [(h0, .inr (3, [.int 0, .int 0, .null, .null, .null, .null, .null, .int 0, .int 0, .int 0, .int 0, .int 0, .int 0, .null, .null, .null]))] s.heap := hP
  have hl := lv_entry ([.ref h0, .int x1, .int x2]) (n := 4) (Nat.le_of_ble_eq_true rfl)
  rw [lg_entry_eq]
  generalize (lg_sl ([.ref h0, .int x1, .int x2]) ++ List.replicate (4 - (lg_sl ([.ref h0, .int x1, .int x2])).length) Slot.unset).toArray = ls at hl ⊢
  have hl : lv_has ls 4 [(0, .ref h0), (1, .int x1), (2, .int x2)] := hl
  refine lv_aload_n hx hb dX3_init_0 rfl (lv_at hl 0 rfl) ?_
  refine W.objInit hx hb hown (hts _ (List.mem_of_getElem? (i := 1) rfl)) (hts _ (List.mem_of_getElem? (i := 2) rfl)) (hts _ (List.mem_of_getElem? (i := 3) rfl)) rfl (by rw [hml]; exact hl.1) rfl dX3_init_1 (Nat.le_of_ble_eq_true rfl) (Nat.le_of_ble_eq_true rfl) ?_
  refine W.eq (g2 := F0 m 4 ls []) rfl ?_
  refine lv_aload_n hx hb dX3_init_4 rfl (lv_at hl 0 rfl) ?_
  refine lv_bipush (v := zI 48) hx hb dX3_init_5 (by decide) ?_
  refine va_newa (ty := .int) (a0 := (48, .inl (fun _ => 0))) (N' := 48) hx hb (hts _ (List.mem_of_getElem? (i := 4) rfl)) rfl hK hP hD hS hA (fun _ => rfl) (by decide) (by decide) (by show _ * 4 ≤ _; omega) (by show 0 + 1 ≤ 8; omega) (by show 0 + 48 ≤ 213; omega) dX3_init_7 (fun q1 e1 H hK hP hD hS => ?_)
  refine W.widen (k := 1) (n := 48) (by omega) (by omega) ?_
  have hP : va_P D vwCl [(h0, .inr (3, [.int 0, .int 0, .null, .null, .null, .null, .null, .int 0, .int 0, .int 0, .int 0, .int 0, .int 0, .null, .null, .null])), (q1, .inl (e1, 48, .inl (fun _ => 0)))] H := hP
  have hD : va_D A [(h0, .inr (3, [.int 0, .int 0, .null, .null, .null, .null, .null, .int 0, .int 0, .int 0, .int 0, .int 0, .int 0, .null, .null, .null])), (q1, .inl (e1, 48, .inl (fun _ => 0)))] := hD
  have hK : va_K D vwCl [(e1, .int)] s := hK
  refine va_putF (D := D) (ci := 3) (v := .ref q1) (ty := .array .int) (C := RX3) (T := TX3) (N := 16) hx hb hts in_X3_init_X3 tyX3 tyX3_ok nmX3 hown hK hP hD hS 0 rfl rfl 2 (by decide) (hts _ (List.mem_of_getElem? (i := 5) rfl)) (fun _ h9 => h9) rfl hin rfl (by decide +kernel) rfl rfl (Nat.le_of_ble_eq_true rfl) dX3_init_9 (fun H locs hP hD hS => ?_)
  have hP : va_P D vwCl [(h0, .inr (3, [.int 0, .int 0, .ref q1, .null, .null, .null, .null, .int 0, .int 0, .int 0, .int 0, .int 0, .int 0, .null, .null, .null])), (q1, .inl (e1, 48, .inl (fun _ => 0)))] H := hP
  have hD : va_D A [(h0, .inr (3, [.int 0, .int 0, .ref q1, .null, .null, .null, .null, .int 0, .int 0, .int 0, .int 0, .int 0, .int 0, .null, .null, .null])), (q1, .inl (e1, 48, .inl (fun _ => 0)))] := hD
  refine lv_aload_n hx hb dX3_init_12 rfl (lv_at hl 0 rfl) ?_
  refine lv_bipush (v := zI 48) hx hb dX3_init_13 (by decide) ?_
  refine va_newa (ty := .int) (a0 := (48, .inl (fun _ => 0))) (N' := 48) hx hb (hts _ (List.mem_of_getElem? (i := 4) rfl)) rfl hK hP hD hS hA (fun _ => rfl) (by decide) (by decide) (by show _ * 4 ≤ _; omega) (by show 1 + 1 ≤ 8; omega) (by show 48 + 48 ≤ 213; omega) dX3_init_15 (fun q2 e2 H hK hP hD hS => ?_)
  refine W.widen (k := 2) (n := 96) (by omega) (by omega) ?_
  have hP : va_P D vwCl [(h0, .inr (3, [.int 0, .int 0, .ref q1, .null, .null, .null, .null, .int 0, .int 0, .int 0, .int 0, .int 0, .int 0, .null, .null, .null])), (q1, .inl (e1, 48, .inl (fun _ => 0))), (q2, .inl (e2, 48, .inl (fun _ => 0)))] H := hP
  have hD : va_D A [(h0, .inr (3, [.int 0, .int 0, .ref q1, .null, .null, .null, .null, .int 0, .int 0, .int 0, .int 0, .int 0, .int 0, .null, .null, .null])), (q1, .inl (e1, 48, .inl (fun _ => 0))), (q2, .inl (e2, 48, .inl (fun _ => 0)))] := hD
  have hK : va_K D vwCl [(e1, .int), (e2, .int)] s := hK
  refine va_putF (D := D) (ci := 3) (v := .ref q2) (ty := .array .int) (C := RX3) (T := TX3) (N := 16) hx hb hts in_X3_init_X3 tyX3 tyX3_ok nmX3 hown hK hP hD hS 0 rfl rfl 3 (by decide) (hts _ (List.mem_of_getElem? (i := 6) rfl)) (fun _ h9 => h9) rfl hin rfl (by decide +kernel) rfl rfl (Nat.le_of_ble_eq_true rfl) dX3_init_17 (fun H locs hP hD hS => ?_)
  have hP : va_P D vwCl [(h0, .inr (3, [.int 0, .int 0, .ref q1, .ref q2, .null, .null, .null, .int 0, .int 0, .int 0, .int 0, .int 0, .int 0, .null, .null, .null])), (q1, .inl (e1, 48, .inl (fun _ => 0))), (q2, .inl (e2, 48, .inl (fun _ => 0)))] H := hP
  have hD : va_D A [(h0, .inr (3, [.int 0, .int 0, .ref q1, .ref q2, .null, .null, .null, .int 0, .int 0, .int 0, .int 0, .int 0, .int 0, .null, .null, .null])), (q1, .inl (e1, 48, .inl (fun _ => 0))), (q2, .inl (e2, 48, .inl (fun _ => 0)))] := hD
  refine lv_aload_n hx hb dX3_init_20 rfl (lv_at hl 0 rfl) ?_
  refine lv_bipush (v := zI 48) hx hb dX3_init_21 (by decide) ?_
  refine va_newa (ty := .int) (a0 := (48, .inl (fun _ => 0))) (N' := 48) hx hb (hts _ (List.mem_of_getElem? (i := 4) rfl)) rfl hK hP hD hS hA (fun _ => rfl) (by decide) (by decide) (by show _ * 4 ≤ _; omega) (by show 2 + 1 ≤ 8; omega) (by show 96 + 48 ≤ 213; omega) dX3_init_23 (fun q3 e3 H hK hP hD hS => ?_)
  refine W.widen (k := 3) (n := 144) (by omega) (by omega) ?_
  have hP : va_P D vwCl [(h0, .inr (3, [.int 0, .int 0, .ref q1, .ref q2, .null, .null, .null, .int 0, .int 0, .int 0, .int 0, .int 0, .int 0, .null, .null, .null])), (q1, .inl (e1, 48, .inl (fun _ => 0))), (q2, .inl (e2, 48, .inl (fun _ => 0))), (q3, .inl (e3, 48, .inl (fun _ => 0)))] H := hP
  have hD : va_D A [(h0, .inr (3, [.int 0, .int 0, .ref q1, .ref q2, .null, .null, .null, .int 0, .int 0, .int 0, .int 0, .int 0, .int 0, .null, .null, .null])), (q1, .inl (e1, 48, .inl (fun _ => 0))), (q2, .inl (e2, 48, .inl (fun _ => 0))), (q3, .inl (e3, 48, .inl (fun _ => 0)))] := hD
  have hK : va_K D vwCl [(e1, .int), (e2, .int), (e3, .int)] s := hK
  refine va_putF (D := D) (ci := 3) (v := .ref q3) (ty := .array .int) (C := RX3) (T := TX3) (N := 16) hx hb hts in_X3_init_X3 tyX3 tyX3_ok nmX3 hown hK hP hD hS 0 rfl rfl 4 (by decide) (hts _ (List.mem_of_getElem? (i := 7) rfl)) (fun _ h9 => h9) rfl hin rfl (by decide +kernel) rfl rfl (Nat.le_of_ble_eq_true rfl) dX3_init_25 (fun H locs hP hD hS => ?_)
  have hP : va_P D vwCl [(h0, .inr (3, [.int 0, .int 0, .ref q1, .ref q2, .ref q3, .null, .null, .int 0, .int 0, .int 0, .int 0, .int 0, .int 0, .null, .null, .null])), (q1, .inl (e1, 48, .inl (fun _ => 0))), (q2, .inl (e2, 48, .inl (fun _ => 0))), (q3, .inl (e3, 48, .inl (fun _ => 0)))] H := hP
  have hD : va_D A [(h0, .inr (3, [.int 0, .int 0, .ref q1, .ref q2, .ref q3, .null, .null, .int 0, .int 0, .int 0, .int 0, .int 0, .int 0, .null, .null, .null])), (q1, .inl (e1, 48, .inl (fun _ => 0))), (q2, .inl (e2, 48, .inl (fun _ => 0))), (q3, .inl (e3, 48, .inl (fun _ => 0)))] := hD
  refine lv_aload_n hx hb dX3_init_28 rfl (lv_at hl 0 rfl) ?_
  refine lv_bipush (v := zI 48) hx hb dX3_init_29 (by decide) ?_
  refine va_newa (ty := .int) (a0 := (48, .inl (fun _ => 0))) (N' := 48) hx hb (hts _ (List.mem_of_getElem? (i := 4) rfl)) rfl hK hP hD hS hA (fun _ => rfl) (by decide) (by decide) (by show _ * 4 ≤ _; omega) (by show 3 + 1 ≤ 8; omega) (by show 144 + 48 ≤ 213; omega) dX3_init_31 (fun q4 e4 H hK hP hD hS => ?_)
  refine W.widen (k := 4) (n := 192) (by omega) (by omega) ?_
  have hP : va_P D vwCl [(h0, .inr (3, [.int 0, .int 0, .ref q1, .ref q2, .ref q3, .null, .null, .int 0, .int 0, .int 0, .int 0, .int 0, .int 0, .null, .null, .null])), (q1, .inl (e1, 48, .inl (fun _ => 0))), (q2, .inl (e2, 48, .inl (fun _ => 0))), (q3, .inl (e3, 48, .inl (fun _ => 0))), (q4, .inl (e4, 48, .inl (fun _ => 0)))] H := hP
  have hD : va_D A [(h0, .inr (3, [.int 0, .int 0, .ref q1, .ref q2, .ref q3, .null, .null, .int 0, .int 0, .int 0, .int 0, .int 0, .int 0, .null, .null, .null])), (q1, .inl (e1, 48, .inl (fun _ => 0))), (q2, .inl (e2, 48, .inl (fun _ => 0))), (q3, .inl (e3, 48, .inl (fun _ => 0))), (q4, .inl (e4, 48, .inl (fun _ => 0)))] := hD
  have hK : va_K D vwCl [(e1, .int), (e2, .int), (e3, .int), (e4, .int)] s := hK
  refine va_putF (D := D) (ci := 3) (v := .ref q4) (ty := .array .int) (C := RX3) (T := TX3) (N := 16) hx hb hts in_X3_init_X3 tyX3 tyX3_ok nmX3 hown hK hP hD hS 0 rfl rfl 5 (by decide) (hts _ (List.mem_of_getElem? (i := 8) rfl)) (fun _ h9 => h9) rfl hin rfl (by decide +kernel) rfl rfl (Nat.le_of_ble_eq_true rfl) dX3_init_33 (fun H locs hP hD hS => ?_)
  have hP : va_P D vwCl [(h0, .inr (3, [.int 0, .int 0, .ref q1, .ref q2, .ref q3, .ref q4, .null, .int 0, .int 0, .int 0, .int 0, .int 0, .int 0, .null, .null, .null])), (q1, .inl (e1, 48, .inl (fun _ => 0))), (q2, .inl (e2, 48, .inl (fun _ => 0))), (q3, .inl (e3, 48, .inl (fun _ => 0))), (q4, .inl (e4, 48, .inl (fun _ => 0)))] H := hP
  have hD : va_D A [(h0, .inr (3, [.int 0, .int 0, .ref q1, .ref q2, .ref q3, .ref q4, .null, .int 0, .int 0, .int 0, .int 0, .int 0, .int 0, .null, .null, .null])), (q1, .inl (e1, 48, .inl (fun _ => 0))), (q2, .inl (e2, 48, .inl (fun _ => 0))), (q3, .inl (e3, 48, .inl (fun _ => 0))), (q4, .inl (e4, 48, .inl (fun _ => 0)))] := hD
  refine lv_aload_n hx hb dX3_init_36 rfl (lv_at hl 0 rfl) ?_
  refine lv_bipush (v := zI 12) hx hb dX3_init_37 (by decide) ?_
  refine va_newa (ty := .int) (a0 := (12, .inl (fun _ => 0))) (N' := 12) hx hb (hts _ (List.mem_of_getElem? (i := 4) rfl)) rfl hK hP hD hS hA (fun _ => rfl) (by decide) (by decide) (by show _ * 4 ≤ _; omega) (by show 4 + 1 ≤ 8; omega) (by show 192 + 12 ≤ 213; omega) dX3_init_39 (fun q5 e5 H hK hP hD hS => ?_)
  refine W.widen (k := 5) (n := 204) (by omega) (by omega) ?_
  have hP : va_P D vwCl [(h0, .inr (3, [.int 0, .int 0, .ref q1, .ref q2, .ref q3, .ref q4, .null, .int 0, .int 0, .int 0, .int 0, .int 0, .int 0, .null, .null, .null])), (q1, .inl (e1, 48, .inl (fun _ => 0))), (q2, .inl (e2, 48, .inl (fun _ => 0))), (q3, .inl (e3, 48, .inl (fun _ => 0))), (q4, .inl (e4, 48, .inl (fun _ => 0))), (q5, .inl (e5, 12, .inl (fun _ => 0)))] H := hP
  have hD : va_D A [(h0, .inr (3, [.int 0, .int 0, .ref q1, .ref q2, .ref q3, .ref q4, .null, .int 0, .int 0, .int 0, .int 0, .int 0, .int 0, .null, .null, .null])), (q1, .inl (e1, 48, .inl (fun _ => 0))), (q2, .inl (e2, 48, .inl (fun _ => 0))), (q3, .inl (e3, 48, .inl (fun _ => 0))), (q4, .inl (e4, 48, .inl (fun _ => 0))), (q5, .inl (e5, 12, .inl (fun _ => 0)))] := hD
  have hK : va_K D vwCl [(e1, .int), (e2, .int), (e3, .int), (e4, .int), (e5, .int)] s := hK
  refine va_putF (D := D) (ci := 3) (v := .ref q5) (ty := .array .int) (C := RX3) (T := TX3) (N := 16) hx hb hts in_X3_init_X3 tyX3 tyX3_ok nmX3 hown hK hP hD hS 0 rfl rfl 6 (by decide) (hts _ (List.mem_of_getElem? (i := 9) rfl)) (fun _ h9 => h9) rfl hin rfl (by decide +kernel) rfl rfl (Nat.le_of_ble_eq_true rfl) dX3_init_41 (fun H locs hP hD hS => ?_)
  have hP : va_P D vwCl [(h0, .inr (3, [.int 0, .int 0, .ref q1, .ref q2, .ref q3, .ref q4, .ref q5, .int 0, .int 0, .int 0, .int 0, .int 0, .int 0, .null, .null, .null])), (q1, .inl (e1, 48, .inl (fun _ => 0))), (q2, .inl (e2, 48, .inl (fun _ => 0))), (q3, .inl (e3, 48, .inl (fun _ => 0))), (q4, .inl (e4, 48, .inl (fun _ => 0))), (q5, .inl (e5, 12, .inl (fun _ => 0)))] H := hP
  have hD : va_D A [(h0, .inr (3, [.int 0, .int 0, .ref q1, .ref q2, .ref q3, .ref q4, .ref q5, .int 0, .int 0, .int 0, .int 0, .int 0, .int 0, .null, .null, .null])), (q1, .inl (e1, 48, .inl (fun _ => 0))), (q2, .inl (e2, 48, .inl (fun _ => 0))), (q3, .inl (e3, 48, .inl (fun _ => 0))), (q4, .inl (e4, 48, .inl (fun _ => 0))), (q5, .inl (e5, 12, .inl (fun _ => 0)))] := hD
  refine lv_aload_n hx hb dX3_init_44 rfl (lv_at hl 0 rfl) ?_
  refine lv_iconst (v := zI (-1)) hx hb dX3_init_45 (by decide) ?_
  refine va_put (D := D) (ci := 3) (v := .int (zI (-1))) (ty := .int) (C := RX3) (T := TX3) (N := 16) hx hb hts in_X3_init_X3 tyX3 tyX3_ok nmX3 hown hK hP hD hS 0 rfl rfl 8 (by decide) (hts _ (List.mem_of_getElem? (i := 10) rfl)) (fun _ h9 => h9) rfl (by decide +kernel) rfl rfl (Nat.le_of_ble_eq_true rfl) dX3_init_46 (fun H locs hP hD hS => ?_)
  have hP : va_P D vwCl [(h0, .inr (3, [.int 0, .int 0, .ref q1, .ref q2, .ref q3, .ref q4, .ref q5, .int 0, .int (zI (-1)), .int 0, .int 0, .int 0, .int 0, .null, .null, .null])), (q1, .inl (e1, 48, .inl (fun _ => 0))), (q2, .inl (e2, 48, .inl (fun _ => 0))), (q3, .inl (e3, 48, .inl (fun _ => 0))), (q4, .inl (e4, 48, .inl (fun _ => 0))), (q5, .inl (e5, 12, .inl (fun _ => 0)))] H := hP
  have hD : va_D A [(h0, .inr (3, [.int 0, .int 0, .ref q1, .ref q2, .ref q3, .ref q4, .ref q5, .int 0, .int (zI (-1)), .int 0, .int 0, .int 0, .int 0, .null, .null, .null])), (q1, .inl (e1, 48, .inl (fun _ => 0))), (q2, .inl (e2, 48, .inl (fun _ => 0))), (q3, .inl (e3, 48, .inl (fun _ => 0))), (q4, .inl (e4, 48, .inl (fun _ => 0))), (q5, .inl (e5, 12, .inl (fun _ => 0)))] := hD
  refine lv_aload_n hx hb dX3_init_49 rfl (lv_at hl 0 rfl) ?_
  refine lv_iconst (v := zI 3) hx hb dX3_init_50 (by decide) ?_
  refine va_newa (ty := .int) (a0 := (3, .inl (fun _ => 0))) (N' := 3) hx hb (hts _ (List.mem_of_getElem? (i := 4) rfl)) rfl hK hP hD hS hA (fun _ => rfl) (by decide) (by decide) (by show _ * 4 ≤ _; omega) (by show 5 + 1 ≤ 8; omega) (by show 204 + 3 ≤ 213; omega) dX3_init_51 (fun q6 e6 H hK hP hD hS => ?_)
  refine W.widen (k := 6) (n := 207) (by omega) (by omega) ?_
  have hP : va_P D vwCl [(h0, .inr (3, [.int 0, .int 0, .ref q1, .ref q2, .ref q3, .ref q4, .ref q5, .int 0, .int (zI (-1)), .int 0, .int 0, .int 0, .int 0, .null, .null, .null])), (q1, .inl (e1, 48, .inl (fun _ => 0))), (q2, .inl (e2, 48, .inl (fun _ => 0))), (q3, .inl (e3, 48, .inl (fun _ => 0))), (q4, .inl (e4, 48, .inl (fun _ => 0))), (q5, .inl (e5, 12, .inl (fun _ => 0))), (q6, .inl (e6, 3, .inl (fun _ => 0)))] H := hP
  have hD : va_D A [(h0, .inr (3, [.int 0, .int 0, .ref q1, .ref q2, .ref q3, .ref q4, .ref q5, .int 0, .int (zI (-1)), .int 0, .int 0, .int 0, .int 0, .null, .null, .null])), (q1, .inl (e1, 48, .inl (fun _ => 0))), (q2, .inl (e2, 48, .inl (fun _ => 0))), (q3, .inl (e3, 48, .inl (fun _ => 0))), (q4, .inl (e4, 48, .inl (fun _ => 0))), (q5, .inl (e5, 12, .inl (fun _ => 0))), (q6, .inl (e6, 3, .inl (fun _ => 0)))] := hD
  have hK : va_K D vwCl [(e1, .int), (e2, .int), (e3, .int), (e4, .int), (e5, .int), (e6, .int)] s := hK
  refine va_putF (D := D) (ci := 3) (v := .ref q6) (ty := .array .int) (C := RX3) (T := TX3) (N := 16) hx hb hts in_X3_init_X3 tyX3 tyX3_ok nmX3 hown hK hP hD hS 0 rfl rfl 13 (by decide) (hts _ (List.mem_of_getElem? (i := 11) rfl)) (fun _ h9 => h9) rfl hin rfl (by decide +kernel) rfl rfl (Nat.le_of_ble_eq_true rfl) dX3_init_53 (fun H locs hP hD hS => ?_)
  have hP : va_P D vwCl [(h0, .inr (3, [.int 0, .int 0, .ref q1, .ref q2, .ref q3, .ref q4, .ref q5, .int 0, .int (zI (-1)), .int 0, .int 0, .int 0, .int 0, .ref q6, .null, .null])), (q1, .inl (e1, 48, .inl (fun _ => 0))), (q2, .inl (e2, 48, .inl (fun _ => 0))), (q3, .inl (e3, 48, .inl (fun _ => 0))), (q4, .inl (e4, 48, .inl (fun _ => 0))), (q5, .inl (e5, 12, .inl (fun _ => 0))), (q6, .inl (e6, 3, .inl (fun _ => 0)))] H := hP
  have hD : va_D A [(h0, .inr (3, [.int 0, .int 0, .ref q1, .ref q2, .ref q3, .ref q4, .ref q5, .int 0, .int (zI (-1)), .int 0, .int 0, .int 0, .int 0, .ref q6, .null, .null])), (q1, .inl (e1, 48, .inl (fun _ => 0))), (q2, .inl (e2, 48, .inl (fun _ => 0))), (q3, .inl (e3, 48, .inl (fun _ => 0))), (q4, .inl (e4, 48, .inl (fun _ => 0))), (q5, .inl (e5, 12, .inl (fun _ => 0))), (q6, .inl (e6, 3, .inl (fun _ => 0)))] := hD
  refine lv_aload_n hx hb dX3_init_56 rfl (lv_at hl 0 rfl) ?_
  refine lv_iconst (v := zI 3) hx hb dX3_init_57 (by decide) ?_
  refine va_newa (ty := .int) (a0 := (3, .inl (fun _ => 0))) (N' := 3) hx hb (hts _ (List.mem_of_getElem? (i := 4) rfl)) rfl hK hP hD hS hA (fun _ => rfl) (by decide) (by decide) (by show _ * 4 ≤ _; omega) (by show 6 + 1 ≤ 8; omega) (by show 207 + 3 ≤ 213; omega) dX3_init_58 (fun q7 e7 H hK hP hD hS => ?_)
  refine W.widen (k := 7) (n := 210) (by omega) (by omega) ?_
  have hP : va_P D vwCl [(h0, .inr (3, [.int 0, .int 0, .ref q1, .ref q2, .ref q3, .ref q4, .ref q5, .int 0, .int (zI (-1)), .int 0, .int 0, .int 0, .int 0, .ref q6, .null, .null])), (q1, .inl (e1, 48, .inl (fun _ => 0))), (q2, .inl (e2, 48, .inl (fun _ => 0))), (q3, .inl (e3, 48, .inl (fun _ => 0))), (q4, .inl (e4, 48, .inl (fun _ => 0))), (q5, .inl (e5, 12, .inl (fun _ => 0))), (q6, .inl (e6, 3, .inl (fun _ => 0))), (q7, .inl (e7, 3, .inl (fun _ => 0)))] H := hP
  have hD : va_D A [(h0, .inr (3, [.int 0, .int 0, .ref q1, .ref q2, .ref q3, .ref q4, .ref q5, .int 0, .int (zI (-1)), .int 0, .int 0, .int 0, .int 0, .ref q6, .null, .null])), (q1, .inl (e1, 48, .inl (fun _ => 0))), (q2, .inl (e2, 48, .inl (fun _ => 0))), (q3, .inl (e3, 48, .inl (fun _ => 0))), (q4, .inl (e4, 48, .inl (fun _ => 0))), (q5, .inl (e5, 12, .inl (fun _ => 0))), (q6, .inl (e6, 3, .inl (fun _ => 0))), (q7, .inl (e7, 3, .inl (fun _ => 0)))] := hD
  have hK : va_K D vwCl [(e1, .int), (e2, .int), (e3, .int), (e4, .int), (e5, .int), (e6, .int), (e7, .int)] s := hK
  refine va_putF (D := D) (ci := 3) (v := .ref q7) (ty := .array .int) (C := RX3) (T := TX3) (N := 16) hx hb hts in_X3_init_X3 tyX3 tyX3_ok nmX3 hown hK hP hD hS 0 rfl rfl 14 (by decide) (hts _ (List.mem_of_getElem? (i := 12) rfl)) (fun _ h9 => h9) rfl hin rfl (by decide +kernel) rfl rfl (Nat.le_of_ble_eq_true rfl) dX3_init_60 (fun H locs hP hD hS => ?_)
  have hP : va_P D vwCl [(h0, .inr (3, [.int 0, .int 0, .ref q1, .ref q2, .ref q3, .ref q4, .ref q5, .int 0, .int (zI (-1)), .int 0, .int 0, .int 0, .int 0, .ref q6, .ref q7, .null])), (q1, .inl (e1, 48, .inl (fun _ => 0))), (q2, .inl (e2, 48, .inl (fun _ => 0))), (q3, .inl (e3, 48, .inl (fun _ => 0))), (q4, .inl (e4, 48, .inl (fun _ => 0))), (q5, .inl (e5, 12, .inl (fun _ => 0))), (q6, .inl (e6, 3, .inl (fun _ => 0))), (q7, .inl (e7, 3, .inl (fun _ => 0)))] H := hP
  have hD : va_D A [(h0, .inr (3, [.int 0, .int 0, .ref q1, .ref q2, .ref q3, .ref q4, .ref q5, .int 0, .int (zI (-1)), .int 0, .int 0, .int 0, .int 0, .ref q6, .ref q7, .null])), (q1, .inl (e1, 48, .inl (fun _ => 0))), (q2, .inl (e2, 48, .inl (fun _ => 0))), (q3, .inl (e3, 48, .inl (fun _ => 0))), (q4, .inl (e4, 48, .inl (fun _ => 0))), (q5, .inl (e5, 12, .inl (fun _ => 0))), (q6, .inl (e6, 3, .inl (fun _ => 0))), (q7, .inl (e7, 3, .inl (fun _ => 0)))] := hD
  refine lv_aload_n hx hb dX3_init_63 rfl (lv_at hl 0 rfl) ?_
  refine lv_iconst (v := zI 3) hx hb dX3_init_64 (by decide) ?_
  refine va_newa (ty := .int) (a0 := (3, .inl (fun _ => 0))) (N' := 3) hx hb (hts _ (List.mem_of_getElem? (i := 4) rfl)) rfl hK hP hD hS hA (fun _ => rfl) (by decide) (by decide) (by show _ * 4 ≤ _; omega) (by show 7 + 1 ≤ 8; omega) (by show 210 + 3 ≤ 213; omega) dX3_init_65 (fun q8 e8 H hK hP hD hS => ?_)
  refine W.widen (k := 8) (n := 213) (by omega) (by omega) ?_
  have hP : va_P D vwCl [(h0, .inr (3, [.int 0, .int 0, .ref q1, .ref q2, .ref q3, .ref q4, .ref q5, .int 0, .int (zI (-1)), .int 0, .int 0, .int 0, .int 0, .ref q6, .ref q7, .null])), (q1, .inl (e1, 48, .inl (fun _ => 0))), (q2, .inl (e2, 48, .inl (fun _ => 0))), (q3, .inl (e3, 48, .inl (fun _ => 0))), (q4, .inl (e4, 48, .inl (fun _ => 0))), (q5, .inl (e5, 12, .inl (fun _ => 0))), (q6, .inl (e6, 3, .inl (fun _ => 0))), (q7, .inl (e7, 3, .inl (fun _ => 0))), (q8, .inl (e8, 3, .inl (fun _ => 0)))] H := hP
  have hD : va_D A [(h0, .inr (3, [.int 0, .int 0, .ref q1, .ref q2, .ref q3, .ref q4, .ref q5, .int 0, .int (zI (-1)), .int 0, .int 0, .int 0, .int 0, .ref q6, .ref q7, .null])), (q1, .inl (e1, 48, .inl (fun _ => 0))), (q2, .inl (e2, 48, .inl (fun _ => 0))), (q3, .inl (e3, 48, .inl (fun _ => 0))), (q4, .inl (e4, 48, .inl (fun _ => 0))), (q5, .inl (e5, 12, .inl (fun _ => 0))), (q6, .inl (e6, 3, .inl (fun _ => 0))), (q7, .inl (e7, 3, .inl (fun _ => 0))), (q8, .inl (e8, 3, .inl (fun _ => 0)))] := hD
  have hK : va_K D vwCl [(e1, .int), (e2, .int), (e3, .int), (e4, .int), (e5, .int), (e6, .int), (e7, .int), (e8, .int)] s := hK
  refine va_putF (D := D) (ci := 3) (v := .ref q8) (ty := .array .int) (C := RX3) (T := TX3) (N := 16) hx hb hts in_X3_init_X3 tyX3 tyX3_ok nmX3 hown hK hP hD hS 0 rfl rfl 15 (by decide) (hts _ (List.mem_of_getElem? (i := 13) rfl)) (fun _ h9 => h9) rfl hin rfl (by decide +kernel) rfl rfl (Nat.le_of_ble_eq_true rfl) dX3_init_67 (fun H locs hP hD hS => ?_)
  have hP : va_P D vwCl [(h0, .inr (3, [.int 0, .int 0, .ref q1, .ref q2, .ref q3, .ref q4, .ref q5, .int 0, .int (zI (-1)), .int 0, .int 0, .int 0, .int 0, .ref q6, .ref q7, .ref q8])), (q1, .inl (e1, 48, .inl (fun _ => 0))), (q2, .inl (e2, 48, .inl (fun _ => 0))), (q3, .inl (e3, 48, .inl (fun _ => 0))), (q4, .inl (e4, 48, .inl (fun _ => 0))), (q5, .inl (e5, 12, .inl (fun _ => 0))), (q6, .inl (e6, 3, .inl (fun _ => 0))), (q7, .inl (e7, 3, .inl (fun _ => 0))), (q8, .inl (e8, 3, .inl (fun _ => 0)))] H := hP
  have hD : va_D A [(h0, .inr (3, [.int 0, .int 0, .ref q1, .ref q2, .ref q3, .ref q4, .ref q5, .int 0, .int (zI (-1)), .int 0, .int 0, .int 0, .int 0, .ref q6, .ref q7, .ref q8])), (q1, .inl (e1, 48, .inl (fun _ => 0))), (q2, .inl (e2, 48, .inl (fun _ => 0))), (q3, .inl (e3, 48, .inl (fun _ => 0))), (q4, .inl (e4, 48, .inl (fun _ => 0))), (q5, .inl (e5, 12, .inl (fun _ => 0))), (q6, .inl (e6, 3, .inl (fun _ => 0))), (q7, .inl (e7, 3, .inl (fun _ => 0))), (q8, .inl (e8, 3, .inl (fun _ => 0)))] := hD
  refine lv_aload_n hx hb dX3_init_70 rfl (lv_at hl 0 rfl) ?_
  have r88 : W p l e (headSpec wsX3_init rmX3_init).room s m (List.toArray [.ref h0, .int x1, .int x2]) below meth c H locs 8 213 (MQ below (va_Qv (fun _ : Unit => True) (fun _ t => ∃ (a : Nat → Nat) (cA : Nat → ClassId) (f : Nat → Int32), a 0 = h0 ∧ (∀ j, j < 48 → f j = zI (-1)) ∧ va_P D vwCl (MW a mN cA (MU0 b sp f)) t.heap ∧ va_K D vwCl (MT cA) t ∧ va_D A (MW a mN cA (MU0 b sp f))) A) (List.toArray [.ref h0, .int x1, .int x2]) s 8 213 A) (F0 m 88 ls [.int (nI b), .ref h0]) := by
    refine va_putF (D := D) (ci := 3) (v := .int (nI b)) (ty := .int) (C := RX3) (T := TX3) (N := 16) hx hb hts in_X3_init_X3 tyX3 tyX3_ok nmX3 hown hK hP hD hS 0 rfl rfl 0 (by decide) (hts _ (List.mem_of_getElem? (i := 14) rfl)) (fun _ h9 => h9) rfl hin rfl (by decide +kernel) rfl rfl (Nat.le_of_ble_eq_true rfl) dX3_init_88 (fun H locs hP hD hS => ?_)
    have hP : va_P D vwCl [(h0, .inr (3, [.int (nI b), .int 0, .ref q1, .ref q2, .ref q3, .ref q4, .ref q5, .int 0, .int (zI (-1)), .int 0, .int 0, .int 0, .int 0, .ref q6, .ref q7, .ref q8])), (q1, .inl (e1, 48, .inl (fun _ => 0))), (q2, .inl (e2, 48, .inl (fun _ => 0))), (q3, .inl (e3, 48, .inl (fun _ => 0))), (q4, .inl (e4, 48, .inl (fun _ => 0))), (q5, .inl (e5, 12, .inl (fun _ => 0))), (q6, .inl (e6, 3, .inl (fun _ => 0))), (q7, .inl (e7, 3, .inl (fun _ => 0))), (q8, .inl (e8, 3, .inl (fun _ => 0)))] H := hP
    have hD : va_D A [(h0, .inr (3, [.int (nI b), .int 0, .ref q1, .ref q2, .ref q3, .ref q4, .ref q5, .int 0, .int (zI (-1)), .int 0, .int 0, .int 0, .int 0, .ref q6, .ref q7, .ref q8])), (q1, .inl (e1, 48, .inl (fun _ => 0))), (q2, .inl (e2, 48, .inl (fun _ => 0))), (q3, .inl (e3, 48, .inl (fun _ => 0))), (q4, .inl (e4, 48, .inl (fun _ => 0))), (q5, .inl (e5, 12, .inl (fun _ => 0))), (q6, .inl (e6, 3, .inl (fun _ => 0))), (q7, .inl (e7, 3, .inl (fun _ => 0))), (q8, .inl (e8, 3, .inl (fun _ => 0)))] := hD
    refine lv_aload_n hx hb dX3_init_91 rfl (lv_at hl 0 rfl) ?_
    have r108 : W p l e (headSpec wsX3_init rmX3_init).room s m (List.toArray [.ref h0, .int x1, .int x2]) below meth c H locs 8 213 (MQ below (va_Qv (fun _ : Unit => True) (fun _ t => ∃ (a : Nat → Nat) (cA : Nat → ClassId) (f : Nat → Int32), a 0 = h0 ∧ (∀ j, j < 48 → f j = zI (-1)) ∧ va_P D vwCl (MW a mN cA (MU0 b sp f)) t.heap ∧ va_K D vwCl (MT cA) t ∧ va_D A (MW a mN cA (MU0 b sp f))) A) (List.toArray [.ref h0, .int x1, .int x2]) s 8 213 A) (F0 m 108 ls [.int sp, .ref h0]) := by
      refine va_putF (D := D) (ci := 3) (v := .int sp) (ty := .int) (C := RX3) (T := TX3) (N := 16) hx hb hts in_X3_init_X3 tyX3 tyX3_ok nmX3 hown hK hP hD hS 0 rfl rfl 1 (by decide) (hts _ (List.mem_of_getElem? (i := 15) rfl)) (fun _ h9 => h9) rfl hin rfl (by decide +kernel) rfl rfl (Nat.le_of_ble_eq_true rfl) dX3_init_108 (fun H locs hP hD hS => ?_)
      have hP : va_P D vwCl [(h0, .inr (3, [.int (nI b), .int sp, .ref q1, .ref q2, .ref q3, .ref q4, .ref q5, .int 0, .int (zI (-1)), .int 0, .int 0, .int 0, .int 0, .ref q6, .ref q7, .ref q8])), (q1, .inl (e1, 48, .inl (fun _ => 0))), (q2, .inl (e2, 48, .inl (fun _ => 0))), (q3, .inl (e3, 48, .inl (fun _ => 0))), (q4, .inl (e4, 48, .inl (fun _ => 0))), (q5, .inl (e5, 12, .inl (fun _ => 0))), (q6, .inl (e6, 3, .inl (fun _ => 0))), (q7, .inl (e7, 3, .inl (fun _ => 0))), (q8, .inl (e8, 3, .inl (fun _ => 0)))] H := hP
      have hD : va_D A [(h0, .inr (3, [.int (nI b), .int sp, .ref q1, .ref q2, .ref q3, .ref q4, .ref q5, .int 0, .int (zI (-1)), .int 0, .int 0, .int 0, .int 0, .ref q6, .ref q7, .ref q8])), (q1, .inl (e1, 48, .inl (fun _ => 0))), (q2, .inl (e2, 48, .inl (fun _ => 0))), (q3, .inl (e3, 48, .inl (fun _ => 0))), (q4, .inl (e4, 48, .inl (fun _ => 0))), (q5, .inl (e5, 12, .inl (fun _ => 0))), (q6, .inl (e6, 3, .inl (fun _ => 0))), (q7, .inl (e7, 3, .inl (fun _ => 0))), (q8, .inl (e8, 3, .inl (fun _ => 0)))] := hD
      refine lv_iconst (v := zI 0) hx hb dX3_init_111 (by decide) ?_
      refine lv_istore_n (lv' := [(3, .int (zI 0)), (0, .ref h0), (1, .int x1), (2, .int x2)]) hx hb dX3_init_112 rfl hl (by decide) rfl (fun ls hl => ?_)
      have loop : ∀ (N i : Nat) (f : Nat → Int32) (H : Heap) (locs : List Loc) (ls : Array Slot), i + N = 48 → (∀ j, j < i → f j = zI (-1)) → va_P D vwCl [(h0, .inr (3, [.int (nI b), .int sp, .ref q1, .ref q2, .ref q3, .ref q4, .ref q5, .int 0, .int (zI (-1)), .int 0, .int 0, .int 0, .int 0, .ref q6, .ref q7, .ref q8])), (q1, .inl (e1, 48, .inl f)), (q2, .inl (e2, 48, .inl (fun _ => 0))), (q3, .inl (e3, 48, .inl (fun _ => 0))), (q4, .inl (e4, 48, .inl (fun _ => 0))), (q5, .inl (e5, 12, .inl (fun _ => 0))), (q6, .inl (e6, 3, .inl (fun _ => 0))), (q7, .inl (e7, 3, .inl (fun _ => 0))), (q8, .inl (e8, 3, .inl (fun _ => 0)))] H → va_D A [(h0, .inr (3, [.int (nI b), .int sp, .ref q1, .ref q2, .ref q3, .ref q4, .ref q5, .int 0, .int (zI (-1)), .int 0, .int 0, .int 0, .int 0, .ref q6, .ref q7, .ref q8])), (q1, .inl (e1, 48, .inl f)), (q2, .inl (e2, 48, .inl (fun _ => 0))), (q3, .inl (e3, 48, .inl (fun _ => 0))), (q4, .inl (e4, 48, .inl (fun _ => 0))), (q5, .inl (e5, 12, .inl (fun _ => 0))), (q6, .inl (e6, 3, .inl (fun _ => 0))), (q7, .inl (e7, 3, .inl (fun _ => 0))), (q8, .inl (e8, 3, .inl (fun _ => 0)))] → va_S A s.heap H locs → lv_has ls 4 [(0, .ref h0), (1, .int x1), (2, .int x2), (3, .int (nI i))] → W p l e (headSpec wsX3_init rmX3_init).room s m (List.toArray [.ref h0, .int x1, .int x2]) below meth c H locs 8 213 (MQ below (va_Qv (fun _ : Unit => True) (fun _ t => ∃ (a : Nat → Nat) (cA : Nat → ClassId) (f : Nat → Int32), a 0 = h0 ∧ (∀ j, j < 48 → f j = zI (-1)) ∧ va_P D vwCl (MW a mN cA (MU0 b sp f)) t.heap ∧ va_K D vwCl (MT cA) t ∧ va_D A (MW a mN cA (MU0 b sp f))) A) (List.toArray [.ref h0, .int x1, .int x2]) s 8 213 A) (F0 m 113 ls []) := by
        intro N
        induction N with
        | zero =>
          intro i f H locs ls hi hf hP hD hS hl
          refine lv_iload_n hx hb dX3_init_113 rfl (lv_at hl 3 rfl) ?_
          refine lv_bipush (v := nI 48) hx hb dX3_init_114 (by decide) ?_
          refine lv_icmp_ge (tgt := 132) hx hb dX3_init_116 (by decide) (fun c1 => ?_) (fun c1 => absurd (nI_le (by omega) (by omega)) c1)
          have hP9 : va_P D vwCl (MW (xA [h0, q1, q2, q3, q4, q5, q6, q7, q8]) mN (xC e1 [e1, e1, e2, e3, e4, e5, e6, e7, e8]) (MU0 b sp f)) H := hP
          have hD9 : va_D A (MW (xA [h0, q1, q2, q3, q4, q5, q6, q7, q8]) mN (xC e1 [e1, e1, e2, e3, e4, e5, e6, e7, e8]) (MU0 b sp f)) := hD
          have hK9 : va_K D vwCl (MT (xC e1 [e1, e1, e2, e3, e4, e5, e6, e7, e8])) s := hK
          exact W.vret hx hb hr (fun t ht hW => ⟨⟨(), rfl, trivial, (xA [h0, q1, q2, q3, q4, q5, q6, q7, q8]), (xC e1 [e1, e1, e2, e3, e4, e5, e6, e7, e8]), f, rfl, fun j hj => hf j (by omega), by rw [ht]; exact hP9, va_K.moved hW.alike hK9, hD9⟩, hS.F ht⟩) hS.2.2 dX3_init_132 hlocks
        | succ N ih =>
          intro i f H locs ls hi hf hP hD hS hl
          refine lv_iload_n hx hb dX3_init_113 rfl (lv_at hl 3 rfl) ?_
          refine lv_bipush (v := nI 48) hx hb dX3_init_114 (by decide) ?_
          refine lv_icmp_ge (tgt := 132) hx hb dX3_init_116 (by decide) (fun c1 => absurd c1 (nI_ge (by omega) (by omega))) (fun c1 => ?_)
          refine lv_aload_n hx hb dX3_init_119 rfl (lv_at hl 0 rfl) ?_
          refine va_get (D := D) (ci := 3) (v := .ref q1) (C := RX3) (T := TX3) (N := 16) hx hb hts in_X3_init_X3 hown hK hP 0 rfl rfl 2 (by decide) (hts _ (List.mem_of_getElem? (i := 5) rfl)) (fun _ h9 => h9) rfl dX3_init_120 ?_
          refine lv_iload_n hx hb dX3_init_123 rfl (lv_at hl 3 rfl) ?_
          refine lv_iconst (v := zI (-1)) hx hb dX3_init_124 (by decide) ?_
          refine va_iast hx hb hK hP hD hS 1 0 rfl rfl (vp_in_nI (by omega) (by omega)) dX3_init_125 (fun H locs hP hD hS => ?_)
          refine lv_iinc (v := nI (i + 1)) (lv' := [(3, .int (nI (i + 1))), (0, .ref h0), (1, .int x1), (2, .int x2)]) hx hb dX3_init_126 hl (k := 3) rfl (nI_1 i) (by decide) rfl (fun ls hl => ?_)
          refine lv_goto (tgt := 113) hx hb dX3_init_129 (by decide) ?_
          refine ih (i + 1) (upd f (nI i).toNatClampNeg (zI (-1))) H locs ls (by omega) (fun j hj => ?_) hP hD hS (lv_sub hl [1, 2, 3, 0] rfl)
          rw [nI_clamp (by omega)]
          by_cases hji : j = i
          · rw [hji]; exact pk_us
          · rw [pk_un hji]; exact hf j (by omega)
      exact loop 48 0 (fun _ => 0) H locs ls (by omega) (fun j hj => absurd hj (Nat.not_lt_zero j)) hP hD hS (lv_sub hl [1, 2, 3, 0] rfl)
    refine lv_iload_n hx hb dX3_init_92 rfl (lv_at hl 2 rfl) ?_
    refine lv_iconst (v := zI 1) hx hb dX3_init_93 (by decide) ?_
    refine lv_icmp_lt (tgt := 103) hx hb dX3_init_94 (by decide) (fun c3 => ?_) (fun c3 => ?_)
    · refine lv_iconst (v := sp) hx hb dX3_init_103 (by rw [hS1 c3]; decide) ?_
      refine lv_goto (tgt := 108) hx hb dX3_init_104 (by decide) ?_
      exact r108
    · refine lv_iload_n hx hb dX3_init_97 rfl (lv_at hl 2 rfl) ?_
      refine lv_bipush (v := zI 50) hx hb dX3_init_98 (by decide) ?_
      refine lv_icmp_le (tgt := 107) hx hb dX3_init_100 (by decide) (fun c4 => ?_) (fun c4 => ?_)
      · refine lv_iload_n hx hb dX3_init_107 rfl (lv_at hl 2 rfl) ?_
        exact W.eq (g2 := F0 m 108 ls [.int sp, .ref h0]) (by rw [hS3 c3 (Int32.not_lt.mpr c4)]) r108
      · refine lv_iconst (v := sp) hx hb dX3_init_103 (by rw [hS2 (Int32.not_le.mp c4)]; decide) ?_
        refine lv_goto (tgt := 108) hx hb dX3_init_104 (by decide) ?_
        exact r108
  refine lv_iload_n hx hb dX3_init_71 rfl (lv_at hl 1 rfl) ?_
  refine lv_iconst (v := zI 5) hx hb dX3_init_72 (by decide) ?_
  refine lv_icmp_lt (tgt := 82) hx hb dX3_init_73 (by decide) (fun c1 => ?_) (fun c1 => ?_)
  · refine lv_bipush (v := nI b) hx hb dX3_init_82 (by rw [hB1 c1]; decide) ?_
    refine lv_goto (tgt := 88) hx hb dX3_init_84 (by decide) ?_
    exact r88
  · refine lv_iload_n hx hb dX3_init_76 rfl (lv_at hl 1 rfl) ?_
    refine lv_bipush (v := zI 12) hx hb dX3_init_77 (by decide) ?_
    refine lv_icmp_le (tgt := 87) hx hb dX3_init_79 (by decide) (fun c2 => ?_) (fun c2 => ?_)
    · refine lv_iload_n hx hb dX3_init_87 rfl (lv_at hl 1 rfl) ?_
      exact W.eq (g2 := F0 m 88 ls [.int (nI b), .ref h0]) (by rw [← hB3 c1 (Int32.not_lt.mpr c2)]) r88
    · refine lv_bipush (v := nI b) hx hb dX3_init_82 (by rw [hB2 (Int32.not_le.mp c2)]; decide) ?_
      refine lv_goto (tgt := 88) hx hb dX3_init_84 (by decide) ?_
      exact r88
