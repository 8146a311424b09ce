abbrev rmX2_read : Room := { frames := 2, cells := 0, slots := 0, locals := 42 }
theorem in_X2_read_X2 : ∀ w ∈ u_ws RX2 TX2 4, w ∈ wsX2_read := fun _ h => List.mem_cons_of_mem _ (List.mem_append_left _ (List.mem_append_left _ (List.mem_append_right _ h)))
theorem in_X2_read_X0 : ∀ w ∈ u_ws RX0 TX0 4, w ∈ wsX2_read := fun _ h => List.mem_cons_of_mem _ (List.mem_append_left _ (List.mem_append_right _ h))
theorem in_X2_read_X1 : ∀ w ∈ u_ws RX1 TX1 11, w ∈ wsX2_read := fun _ h => List.mem_cons_of_mem _ (List.mem_append_right _ h)
def fX2_read (n : Nat → Nat) (K : Nat) (x1 : Int32) (u : XU) : Option (Int32 × XU) := (fX0_find n K x1 u).bind fun z1 => (if z1.1 = (zI (-1)) then ((fX2_place n K x1 z1.2).bind fun z4 => (if z4.1 = (zI (-1)) then (some (zI 0, z4.2)) else (vg z4.1 (n 4) (some ((xu_val z4.2) (z4.1).toNatClampNeg, z4.2))))) else (vg z1.1 (n 11) (some ((xu_bva z1.2) (z1.1).toNatClampNeg, z1.2))))
section
variable {p : Program} {l : Launch} {e : Env} {s : State} {m : MethodId} {args : Array Value} {below : List Frame} {meth : Method} {c : Code} {D : va_G} {a n : Nat → Nat} {cA : Nat → ClassId} {A : Nat → Prop}
set_option maxHeartbeats 4000000 in
set_option maxRecDepth 100000 in
theorem lbX2_read_e {K : Nat} (X : vzX D (XT cA) A wsX2_read cX2_read 4 (some .int) RX2 p s m args meth c) : ∀ (x1 : Int32) (u : XU) (H : Heap) (locs : List Loc) (ls : Array Slot) (r : Int32) (u2 : XU), fX2_read n K x1 u = some (r, u2) → va_P D vwCl (XW a n cA u) H → va_D A (XW a n cA u) → va_S A s.heap H locs → lv_has ls 4 [(0, .ref (a 0)), (1, .int x1)] → W p l e (headSpec wsX2_read rmX2_read).room s m args below meth c H locs 0 0 (MQ below (vzQ D (XT cA) (XW a n cA) A r u2) args s 0 0 A) (F0 m 0 ls []) := by
  obtain ⟨hx, hb, hr, hml, hown, hts, hlk, hN, hK, hA⟩ := id X
  intro x1 u H locs ls r u2 hf hP hD hS hl
  unfold fX2_read at hf
  refine lv_aload_n hx hb dX2_read_0 rfl (lv_at hl 0 rfl) ?_
  refine va_get (D := D) (ci := 2) (v := .ref (a 2)) (C := RX2) (T := TX2) (N := 4) hx hb hts in_X2_read_X2 hown hK hP 0 rfl rfl 1 (by decide) (hts _ (List.mem_of_getElem? (i := 1) rfl)) (fun _ h9 => h9) rfl dX2_read_1 ?_
  refine lv_iload_n hx hb dX2_read_4 rfl (lv_at hl 1 rfl) ?_
  obtain ⟨z1, hz2, hf⟩ := bd hf
  refine vz_call (rest := []) X (kX0_find hz2) (cwV 1 hts gX2_read_X0_find rfl rfl rfl (by decide +kernel) ⟨Nat.le_of_ble_eq_true rfl, Nat.le_of_ble_eq_true rfl⟩) 2 0 rfl rfl rfl hl.1 rfl (Nat.le_of_ble_eq_true rfl) dX2_read_5 ⟨Nat.zero_le _, Nat.zero_le _⟩ hP hD hS (fun H locs hP hD hS => ?_)
  refine lv_istore_n (lv' := [(2, .int z1.1), (0, .ref (a 0)), (1, .int x1)]) hx hb dX2_read_8 rfl hl (by decide) rfl (fun ls hl => ?_)
  refine lv_iload_n hx hb dX2_read_9 rfl (lv_at hl 0 rfl) ?_
  refine lv_iconst (v := zI (-1)) hx hb dX2_read_10 (by decide) ?_
  refine lv_icmp_eq (tgt := 24) hx hb dX2_read_11 (by decide) (fun c3 => ?_) (fun c3 => ?_)
  · have hf := ift c3 hf
    refine lv_aload_n hx hb dX2_read_24 rfl (lv_at hl 1 rfl) ?_
    refine lv_iload_n hx hb dX2_read_25 rfl (lv_at hl 2 rfl) ?_
    obtain ⟨z4, hz5, hf⟩ := bd hf
    refine vz_call (rest := []) X (kX2_place hz5) (cwV 1 hts gX2_read_X2_place rfl rfl rfl (by decide +kernel) ⟨Nat.le_of_ble_eq_true rfl, Nat.le_of_ble_eq_true rfl⟩) 0 2 rfl rfl rfl hl.1 rfl (Nat.le_of_ble_eq_true rfl) dX2_read_26 ⟨Nat.zero_le _, Nat.zero_le _⟩ hP hD hS (fun H locs hP hD hS => ?_)
    refine lv_istore_n (lv' := [(3, .int z4.1), (2, .int z1.1), (0, .ref (a 0)), (1, .int x1)]) hx hb dX2_read_29 rfl hl (by decide) rfl (fun ls hl => ?_)
    refine lv_iload_n hx hb dX2_read_30 rfl (lv_at hl 0 rfl) ?_
    refine lv_iconst (v := zI (-1)) hx hb dX2_read_31 (by decide) ?_
    refine lv_icmp_ne (tgt := 39) hx hb dX2_read_32 (by decide) (fun c6 => ?_) (fun c6 => ?_)
    · have hf := iff_ c6 hf
      refine lv_aload_n hx hb dX2_read_39 rfl (lv_at hl 2 rfl) ?_
      refine va_get (D := D) (ci := 2) (v := .ref (a 1)) (C := RX2) (T := TX2) (N := 4) hx hb hts in_X2_read_X2 hown hK hP 0 rfl rfl 0 (by decide) (hts _ (List.mem_of_getElem? (i := 2) rfl)) (fun _ h9 => h9) rfl dX2_read_40 ?_
      refine va_getN (D := D) (ci := 1) (v := .ref (a 4)) (C := RX1) (T := TX1) (N := 11) hx hb hts in_X2_read_X1 hown hK hP 1 rfl rfl 2 (by decide) (hN.at 1 rfl) (fun _ h9 => h9) rfl dX2_read_43 ?_
      refine lv_iload_n hx hb dX2_read_46 rfl (lv_at hl 0 rfl) ?_
      obtain ⟨g7, hf⟩ := vgs hf
      refine va_iald hx hb hK hP 4 1 rfl rfl g7 dX2_read_47 ?_
      cases hf
      exact vz_iret X hP hD hS dX2_read_48
    · have hf := ift c6 hf
      refine lv_iconst (v := zI 0) hx hb dX2_read_35 (by decide) ?_
      refine lv_goto (tgt := 48) hx hb dX2_read_36 (by decide) ?_
      cases hf
      exact vz_iret X hP hD hS dX2_read_48
  · have hf := iff_ c3 hf
    refine lv_aload_n hx hb dX2_read_14 rfl (lv_at hl 1 rfl) ?_
    refine va_get (D := D) (ci := 2) (v := .ref (a 2)) (C := RX2) (T := TX2) (N := 4) hx hb hts in_X2_read_X2 hown hK hP 0 rfl rfl 1 (by decide) (hts _ (List.mem_of_getElem? (i := 1) rfl)) (fun _ h9 => h9) rfl dX2_read_15 ?_
    refine va_getN (D := D) (ci := 0) (v := .ref (a 11)) (C := RX0) (T := TX0) (N := 4) hx hb hts in_X2_read_X0 hown hK hP 2 rfl rfl 1 (by decide) (hN.at 10 rfl) (fun _ h9 => h9) rfl dX2_read_18 ?_
    refine lv_iload_n hx hb dX2_read_21 rfl (lv_at hl 0 rfl) ?_
    obtain ⟨g8, hf⟩ := vgs hf
    refine va_iald hx hb hK hP 11 8 rfl rfl g8 dX2_read_22 ?_
    cases hf
    exact vz_iret X hP hD hS dX2_read_23
end
theorem kX2_read {l : Launch} {D : va_G} {a n : Nat → Nat} {cA : Nat → ClassId} {K : Nat} {x1 : Int32} {u : XU} {r : Int32} {u2 : XU} (h : fX2_read n K x1 u = some (r, u2)) : vzC l D (XT cA) (XW a n cA) yX2_read wsX2_read rmX2_read [.ref (a 0), .int x1] u r u2 := vzC.of (by decide) rfl (Nat.le_of_ble_eq_true rfl) (fun p e s m below meth c A ls X hP hD hl => lbX2_read_e X x1 u s.heap [] ls r u2 h hP hD va_S.rf hl)
abbrev rmX2_holds : Room := { frames := 2, cells := 0, slots := 0, locals := 42 }
theorem in_X2_holds_X2 : ∀ w ∈ u_ws RX2 TX2 4, w ∈ wsX2_holds := fun _ h => List.mem_cons_of_mem _ (List.mem_append_left _ (List.mem_append_left _ (List.mem_append_right _ h)))
theorem in_X2_holds_X0 : ∀ w ∈ u_ws RX0 TX0 4, w ∈ wsX2_holds := fun _ h => List.mem_cons_of_mem _ (List.mem_append_left _ (List.mem_append_right _ h))
theorem in_X2_holds_X1 : ∀ w ∈ u_ws RX1 TX1 11, w ∈ wsX2_holds := fun _ h => List.mem_cons_of_mem _ (List.mem_append_right _ h)
def fX2_holds (n : Nat → Nat) (K : Nat) (x1 : Int32) (u : XU) : Option (Int32 × XU) := (fX0_find n K x1 u).bind fun z1 => (if z1.1 = (zI (-1)) then ((fX2_place n K x1 z1.2).bind fun z4 => (if z4.1 = (zI (-1)) then (some (zI 0, z4.2)) else (vg z4.1 (n 5) (some ((xu_kin z4.2) (z4.1).toNatClampNeg, z4.2))))) else (vg z1.1 (n 12) (some ((xu_bki z1.2) (z1.1).toNatClampNeg, z1.2))))
section
variable {p : Program} {l : Launch} {e : Env} {s : State} {m : MethodId} {args : Array Value} {below : List Frame} {meth : Method} {c : Code} {D : va_G} {a n : Nat → Nat} {cA : Nat → ClassId} {A : Nat → Prop}
set_option maxHeartbeats 4000000 in
set_option maxRecDepth 100000 in
theorem lbX2_holds_e {K : Nat} (X : vzX D (XT cA) A wsX2_holds cX2_holds 4 (some .int) RX2 p s m args meth c) : ∀ (x1 : Int32) (u : XU) (H : Heap) (locs : List Loc) (ls : Array Slot) (r : Int32) (u2 : XU), fX2_holds n K x1 u = some (r, u2) → va_P D vwCl (XW a n cA u) H → va_D A (XW a n cA u) → va_S A s.heap H locs → lv_has ls 4 [(0, .ref (a 0)), (1, .int x1)] → W p l e (headSpec wsX2_holds rmX2_holds).room s m args below meth c H locs 0 0 (MQ below (vzQ D (XT cA) (XW a n cA) A r u2) args s 0 0 A) (F0 m 0 ls []) := by
  obtain ⟨hx, hb, hr, hml, hown, hts, hlk, hN, hK, hA⟩ := id X
  intro x1 u H locs ls r u2 hf hP hD hS hl
  unfold fX2_holds at hf
  refine lv_aload_n hx hb dX2_holds_0 rfl (lv_at hl 0 rfl) ?_
  refine va_get (D := D) (ci := 2) (v := .ref (a 2)) (C := RX2) (T := TX2) (N := 4) hx hb hts in_X2_holds_X2 hown hK hP 0 rfl rfl 1 (by decide) (hts _ (List.mem_of_getElem? (i := 1) rfl)) (fun _ h9 => h9) rfl dX2_holds_1 ?_
  refine lv_iload_n hx hb dX2_holds_4 rfl (lv_at hl 1 rfl) ?_
  obtain ⟨z1, hz2, hf⟩ := bd hf
  refine vz_call (rest := []) X (kX0_find hz2) (cwV 1 hts gX2_holds_X0_find rfl rfl rfl (by decide +kernel) ⟨Nat.le_of_ble_eq_true rfl, Nat.le_of_ble_eq_true rfl⟩) 2 0 rfl rfl rfl hl.1 rfl (Nat.le_of_ble_eq_true rfl) dX2_holds_5 ⟨Nat.zero_le _, Nat.zero_le _⟩ hP hD hS (fun H locs hP hD hS => ?_)
  refine lv_istore_n (lv' := [(2, .int z1.1), (0, .ref (a 0)), (1, .int x1)]) hx hb dX2_holds_8 rfl hl (by decide) rfl (fun ls hl => ?_)
  refine lv_iload_n hx hb dX2_holds_9 rfl (lv_at hl 0 rfl) ?_
  refine lv_iconst (v := zI (-1)) hx hb dX2_holds_10 (by decide) ?_
  refine lv_icmp_eq (tgt := 24) hx hb dX2_holds_11 (by decide) (fun c3 => ?_) (fun c3 => ?_)
  · have hf := ift c3 hf
    refine lv_aload_n hx hb dX2_holds_24 rfl (lv_at hl 1 rfl) ?_
    refine lv_iload_n hx hb dX2_holds_25 rfl (lv_at hl 2 rfl) ?_
    obtain ⟨z4, hz5, hf⟩ := bd hf
    refine vz_call (rest := []) X (kX2_place hz5) (cwV 1 hts gX2_holds_X2_place rfl rfl rfl (by decide +kernel) ⟨Nat.le_of_ble_eq_true rfl, Nat.le_of_ble_eq_true rfl⟩) 0 2 rfl rfl rfl hl.1 rfl (Nat.le_of_ble_eq_true rfl) dX2_holds_26 ⟨Nat.zero_le _, Nat.zero_le _⟩ hP hD hS (fun H locs hP hD hS => ?_)
    refine lv_istore_n (lv' := [(3, .int z4.1), (2, .int z1.1), (0, .ref (a 0)), (1, .int x1)]) hx hb dX2_holds_29 rfl hl (by decide) rfl (fun ls hl => ?_)
    refine lv_iload_n hx hb dX2_holds_30 rfl (lv_at hl 0 rfl) ?_
    refine lv_iconst (v := zI (-1)) hx hb dX2_holds_31 (by decide) ?_
    refine lv_icmp_ne (tgt := 39) hx hb dX2_holds_32 (by decide) (fun c6 => ?_) (fun c6 => ?_)
    · have hf := iff_ c6 hf
      refine lv_aload_n hx hb dX2_holds_39 rfl (lv_at hl 2 rfl) ?_
      refine va_get (D := D) (ci := 2) (v := .ref (a 1)) (C := RX2) (T := TX2) (N := 4) hx hb hts in_X2_holds_X2 hown hK hP 0 rfl rfl 0 (by decide) (hts _ (List.mem_of_getElem? (i := 2) rfl)) (fun _ h9 => h9) rfl dX2_holds_40 ?_
      refine va_getN (D := D) (ci := 1) (v := .ref (a 5)) (C := RX1) (T := TX1) (N := 11) hx hb hts in_X2_holds_X1 hown hK hP 1 rfl rfl 3 (by decide) (hN.at 2 rfl) (fun _ h9 => h9) rfl dX2_holds_43 ?_
      refine lv_iload_n hx hb dX2_holds_46 rfl (lv_at hl 0 rfl) ?_
      obtain ⟨g7, hf⟩ := vgs hf
      refine va_iald hx hb hK hP 5 2 rfl rfl g7 dX2_holds_47 ?_
      cases hf
      exact vz_iret X hP hD hS dX2_holds_48
    · have hf := ift c6 hf
      refine lv_iconst (v := zI 0) hx hb dX2_holds_35 (by decide) ?_
      refine lv_goto (tgt := 48) hx hb dX2_holds_36 (by decide) ?_
      cases hf
      exact vz_iret X hP hD hS dX2_holds_48
  · have hf := iff_ c3 hf
    refine lv_aload_n hx hb dX2_holds_14 rfl (lv_at hl 1 rfl) ?_
    refine va_get (D := D) (ci := 2) (v := .ref (a 2)) (C := RX2) (T := TX2) (N := 4) hx hb hts in_X2_holds_X2 hown hK hP 0 rfl rfl 1 (by decide) (hts _ (List.mem_of_getElem? (i := 1) rfl)) (fun _ h9 => h9) rfl dX2_holds_15 ?_
    refine va_getN (D := D) (ci := 0) (v := .ref (a 12)) (C := RX0) (T := TX0) (N := 4) hx hb hts in_X2_holds_X0 hown hK hP 2 rfl rfl 2 (by decide) (hN.at 11 rfl) (fun _ h9 => h9) rfl dX2_holds_18 ?_
    refine lv_iload_n hx hb dX2_holds_21 rfl (lv_at hl 0 rfl) ?_
    obtain ⟨g8, hf⟩ := vgs hf
    refine va_iald hx hb hK hP 12 9 rfl rfl g8 dX2_holds_22 ?_
    cases hf
    exact vz_iret X hP hD hS dX2_holds_23
end
theorem kX2_holds {l : Launch} {D : va_G} {a n : Nat → Nat} {cA : Nat → ClassId} {K : Nat} {x1 : Int32} {u : XU} {r : Int32} {u2 : XU} (h : fX2_holds n K x1 u = some (r, u2)) : vzC l D (XT cA) (XW a n cA) yX2_holds wsX2_holds rmX2_holds [.ref (a 0), .int x1] u r u2 := vzC.of (by decide) rfl (Nat.le_of_ble_eq_true rfl) (fun p e s m below meth c A ls X hP hD hl => lbX2_holds_e X x1 u s.heap [] ls r u2 h hP hD va_S.rf hl)
abbrev rmX2_buffered : Room := { frames := 0, cells := 0, slots := 0, locals := 0 }
theorem in_X2_buffered_X2 : ∀ w ∈ u_ws RX2 TX2 4, w ∈ wsX2_buffered := fun _ h => List.mem_cons_of_mem _ (List.mem_append_left _ (List.mem_append_right _ h))
theorem in_X2_buffered_X0 : ∀ w ∈ u_ws RX0 TX0 4, w ∈ wsX2_buffered := fun _ h => List.mem_cons_of_mem _ (List.mem_append_right _ h)
def fX2_buffered (n : Nat → Nat) (K : Nat) (u : XU) : Option (Int32 × XU) := some (xu_cnt u, u)
section
variable {p : Program} {l : Launch} {e : Env} {s : State} {m : MethodId} {args : Array Value} {below : List Frame} {meth : Method} {c : Code} {D : va_G} {a n : Nat → Nat} {cA : Nat → ClassId} {A : Nat → Prop}
set_option maxHeartbeats 4000000 in
set_option maxRecDepth 100000 in
theorem lbX2_buffered_e {K : Nat} (X : vzX D (XT cA) A wsX2_buffered cX2_buffered 1 (some .int) RX2 p s m args meth c) : ∀ (u : XU) (H : Heap) (locs : List Loc) (ls : Array Slot) (r : Int32) (u2 : XU), fX2_buffered n K u = some (r, u2) → va_P D vwCl (XW a n cA u) H → va_D A (XW a n cA u) → va_S A s.heap H locs → lv_has ls 1 [(0, .ref (a 0))] → W p l e (headSpec wsX2_buffered rmX2_buffered).room s m args below meth c H locs 0 0 (MQ below (vzQ D (XT cA) (XW a n cA) A r u2) args s 0 0 A) (F0 m 0 ls []) := by
  obtain ⟨hx, hb, hr, hml, hown, hts, hlk, hN, hK, hA⟩ := id X
  intro u H locs ls r u2 hf hP hD hS hl
  unfold fX2_buffered at hf
  refine lv_aload_n hx hb dX2_buffered_0 rfl (lv_at hl 0 rfl) ?_
  refine va_get (D := D) (ci := 2) (v := .ref (a 2)) (C := RX2) (T := TX2) (N := 4) hx hb hts in_X2_buffered_X2 hown hK hP 0 rfl rfl 1 (by decide) (hts _ (List.mem_of_getElem? (i := 1) rfl)) (fun _ h9 => h9) rfl dX2_buffered_1 ?_
  refine va_getN (D := D) (ci := 0) (v := .int (xu_cnt u)) (C := RX0) (T := TX0) (N := 4) hx hb hts in_X2_buffered_X0 hown hK hP 2 rfl rfl 3 (by decide) (hN.at 12 rfl) (fun _ h9 => h9) rfl dX2_buffered_4 ?_
  cases hf
  exact vz_iret X hP hD hS dX2_buffered_7
end
theorem kX2_buffered {l : Launch} {D : va_G} {a n : Nat → Nat} {cA : Nat → ClassId} {K : Nat} {u : XU} {r : Int32} {u2 : XU} (h : fX2_buffered n K u = some (r, u2)) : vzC l D (XT cA) (XW a n cA) yX2_buffered wsX2_buffered rmX2_buffered [.ref (a 0)] u r u2 := vzC.of (by decide) rfl (Nat.le_of_ble_eq_true rfl) (fun p e s m below meth c A ls X hP hD hl => lbX2_buffered_e X u s.heap [] ls r u2 h hP hD va_S.rf hl)
abbrev rmX2_tag : Room := { frames := 1, cells := 0, slots := 0, locals := 21 }
theorem in_X2_tag_X2 : ∀ w ∈ u_ws RX2 TX2 4, w ∈ wsX2_tag := fun _ h => List.mem_cons_of_mem _ (List.mem_append_left _ (List.mem_append_right _ h))
theorem in_X2_tag_X1 : ∀ w ∈ u_ws RX1 TX1 11, w ∈ wsX2_tag := fun _ h => List.mem_cons_of_mem _ (List.mem_append_right _ h)
def fX2_tag (n : Nat → Nat) (K : Nat) (x1 : Int32) (u : XU) : Option (Int32 × XU) := (fX1_isProgrammed n K x1 u).bind fun z1 => (if z1.1 = 0 then (some (zI (-1), z1.2)) else (vg x1 (n 3) (some ((xu_own z1.2) x1.toNatClampNeg, z1.2))))
section
variable {p : Program} {l : Launch} {e : Env} {s : State} {m : MethodId} {args : Array Value} {below : List Frame} {meth : Method} {c : Code} {D : va_G} {a n : Nat → Nat} {cA : Nat → ClassId} {A : Nat → Prop}
set_option maxHeartbeats 4000000 in
set_option maxRecDepth 100000 in
theorem lbX2_tag_e {K : Nat} (X : vzX D (XT cA) A wsX2_tag cX2_tag 2 (some .int) RX2 p s m args meth c) : ∀ (x1 : Int32) (u : XU) (H : Heap) (locs : List Loc) (ls : Array Slot) (r : Int32) (u2 : XU), fX2_tag n K x1 u = some (r, u2) → va_P D vwCl (XW a n cA u) H → va_D A (XW a n cA u) → va_S A s.heap H locs → lv_has ls 2 [(0, .ref (a 0)), (1, .int x1)] → W p l e (headSpec wsX2_tag rmX2_tag).room s m args below meth c H locs 0 0 (MQ below (vzQ D (XT cA) (XW a n cA) A r u2) args s 0 0 A) (F0 m 0 ls []) := by
  obtain ⟨hx, hb, hr, hml, hown, hts, hlk, hN, hK, hA⟩ := id X
  intro x1 u H locs ls r u2 hf hP hD hS hl
  unfold fX2_tag at hf
  refine lv_aload_n hx hb dX2_tag_0 rfl (lv_at hl 0 rfl) ?_
  refine va_get (D := D) (ci := 2) (v := .ref (a 1)) (C := RX2) (T := TX2) (N := 4) hx hb hts in_X2_tag_X2 hown hK hP 0 rfl rfl 0 (by decide) (hts _ (List.mem_of_getElem? (i := 1) rfl)) (fun _ h9 => h9) rfl dX2_tag_1 ?_
  refine lv_iload_n hx hb dX2_tag_4 rfl (lv_at hl 1 rfl) ?_
  obtain ⟨z1, hz2, hf⟩ := bd hf
  refine vz_call (rest := []) X (kX1_isProgrammed hz2) (cwV 1 hts gX2_tag_X1_isProgrammed rfl rfl rfl (by decide +kernel) ⟨Nat.le_of_ble_eq_true rfl, Nat.le_of_ble_eq_true rfl⟩) 1 1 rfl rfl rfl hl.1 rfl (Nat.le_of_ble_eq_true rfl) dX2_tag_5 ⟨Nat.zero_le _, Nat.zero_le _⟩ hP hD hS (fun H locs hP hD hS => ?_)
  refine lv_if_eq (tgt := 23) hx hb dX2_tag_8 (by decide) (fun c3 => ?_) (fun c3 => ?_)
  · have hf := ift c3 hf
    refine lv_iconst (v := zI (-1)) hx hb dX2_tag_23 (by decide) ?_
    cases hf
    exact vz_iret X hP hD hS dX2_tag_24
  · have hf := iff_ c3 hf
    refine lv_aload_n hx hb dX2_tag_11 rfl (lv_at hl 0 rfl) ?_
    refine va_get (D := D) (ci := 2) (v := .ref (a 1)) (C := RX2) (T := TX2) (N := 4) hx hb hts in_X2_tag_X2 hown hK hP 0 rfl rfl 0 (by decide) (hts _ (List.mem_of_getElem? (i := 1) rfl)) (fun _ h9 => h9) rfl dX2_tag_12 ?_
    refine va_getN (D := D) (ci := 1) (v := .ref (a 3)) (C := RX1) (T := TX1) (N := 11) hx hb hts in_X2_tag_X1 hown hK hP 1 rfl rfl 1 (by decide) (hN.at 0 rfl) (fun _ h9 => h9) rfl dX2_tag_15 ?_
    refine lv_iload_n hx hb dX2_tag_18 rfl (lv_at hl 1 rfl) ?_
    obtain ⟨g4, hf⟩ := vgs hf
    refine va_iald hx hb hK hP 3 0 rfl rfl g4 dX2_tag_19 ?_
    refine lv_goto (tgt := 24) hx hb dX2_tag_20 (by decide) ?_
    cases hf
    exact vz_iret X hP hD hS dX2_tag_24
end
theorem kX2_tag {l : Launch} {D : va_G} {a n : Nat → Nat} {cA : Nat → ClassId} {K : Nat} {x1 : Int32} {u : XU} {r : Int32} {u2 : XU} (h : fX2_tag n K x1 u = some (r, u2)) : vzC l D (XT cA) (XW a n cA) yX2_tag wsX2_tag rmX2_tag [.ref (a 0), .int x1] u r u2 := vzC.of (by decide) rfl (Nat.le_of_ble_eq_true rfl) (fun p e s m below meth c A ls X hP hD hl => lbX2_tag_e X x1 u s.heap [] ls r u2 h hP hD va_S.rf hl)
abbrev rmX2_serial : Room := { frames := 1, cells := 0, slots := 0, locals := 21 }
theorem in_X2_serial_X2 : ∀ w ∈ u_ws RX2 TX2 4, w ∈ wsX2_serial := fun _ h => List.mem_cons_of_mem _ (List.mem_append_left _ (List.mem_append_right _ h))
theorem in_X2_serial_X1 : ∀ w ∈ u_ws RX1 TX1 11, w ∈ wsX2_serial := fun _ h => List.mem_cons_of_mem _ (List.mem_append_right _ h)
def fX2_serial (n : Nat → Nat) (K : Nat) (x1 : Int32) (u : XU) : Option (Int32 × XU) := (fX1_isProgrammed n K x1 u).bind fun z1 => (if z1.1 = 0 then (some (zI (-1), z1.2)) else (vg x1 (n 6) (some ((xu_ser z1.2) x1.toNatClampNeg, z1.2))))
section
variable {p : Program} {l : Launch} {e : Env} {s : State} {m : MethodId} {args : Array Value} {below : List Frame} {meth : Method} {c : Code} {D : va_G} {a n : Nat → Nat} {cA : Nat → ClassId} {A : Nat → Prop}
set_option maxHeartbeats 4000000 in
set_option maxRecDepth 100000 in
theorem lbX2_serial_e {K : Nat} (X : vzX D (XT cA) A wsX2_serial cX2_serial 2 (some .int) RX2 p s m args meth c) : ∀ (x1 : Int32) (u : XU) (H : Heap) (locs : List Loc) (ls : Array Slot) (r : Int32) (u2 : XU), fX2_serial n K x1 u = some (r, u2) → va_P D vwCl (XW a n cA u) H → va_D A (XW a n cA u) → va_S A s.heap H locs → lv_has ls 2 [(0, .ref (a 0)), (1, .int x1)] → W p l e (headSpec wsX2_serial rmX2_serial).room s m args below meth c H locs 0 0 (MQ below (vzQ D (XT cA) (XW a n cA) A r u2) args s 0 0 A) (F0 m 0 ls []) := by
  obtain ⟨hx, hb, hr, hml, hown, hts, hlk, hN, hK, hA⟩ := id X
  intro x1 u H locs ls r u2 hf hP hD hS hl
  unfold fX2_serial at hf
  refine lv_aload_n hx hb dX2_serial_0 rfl (lv_at hl 0 rfl) ?_
  refine va_get (D := D) (ci := 2) (v := .ref (a 1)) (C := RX2) (T := TX2) (N := 4) hx hb hts in_X2_serial_X2 hown hK hP 0 rfl rfl 0 (by decide) (hts _ (List.mem_of_getElem? (i := 1) rfl)) (fun _ h9 => h9) rfl dX2_serial_1 ?_
  refine lv_iload_n hx hb dX2_serial_4 rfl (lv_at hl 1 rfl) ?_
  obtain ⟨z1, hz2, hf⟩ := bd hf
  refine vz_call (rest := []) X (kX1_isProgrammed hz2) (cwV 1 hts gX2_serial_X1_isProgrammed rfl rfl rfl (by decide +kernel) ⟨Nat.le_of_ble_eq_true rfl, Nat.le_of_ble_eq_true rfl⟩) 1 1 rfl rfl rfl hl.1 rfl (Nat.le_of_ble_eq_true rfl) dX2_serial_5 ⟨Nat.zero_le _, Nat.zero_le _⟩ hP hD hS (fun H locs hP hD hS => ?_)
  refine lv_if_eq (tgt := 23) hx hb dX2_serial_8 (by decide) (fun c3 => ?_) (fun c3 => ?_)
  · have hf := ift c3 hf
    refine lv_iconst (v := zI (-1)) hx hb dX2_serial_23 (by decide) ?_
    cases hf
    exact vz_iret X hP hD hS dX2_serial_24
  · have hf := iff_ c3 hf
    refine lv_aload_n hx hb dX2_serial_11 rfl (lv_at hl 0 rfl) ?_
    refine va_get (D := D) (ci := 2) (v := .ref (a 1)) (C := RX2) (T := TX2) (N := 4) hx hb hts in_X2_serial_X2 hown hK hP 0 rfl rfl 0 (by decide) (hts _ (List.mem_of_getElem? (i := 1) rfl)) (fun _ h9 => h9) rfl dX2_serial_12 ?_
    refine va_getN (D := D) (ci := 1) (v := .ref (a 6)) (C := RX1) (T := TX1) (N := 11) hx hb hts in_X2_serial_X1 hown hK hP 1 rfl rfl 4 (by decide) (hN.at 3 rfl) (fun _ h9 => h9) rfl dX2_serial_15 ?_
    refine lv_iload_n hx hb dX2_serial_18 rfl (lv_at hl 1 rfl) ?_
    obtain ⟨g4, hf⟩ := vgs hf
    refine va_iald hx hb hK hP 6 3 rfl rfl g4 dX2_serial_19 ?_
    refine lv_goto (tgt := 24) hx hb dX2_serial_20 (by decide) ?_
    cases hf
    exact vz_iret X hP hD hS dX2_serial_24
end
theorem kX2_serial {l : Launch} {D : va_G} {a n : Nat → Nat} {cA : Nat → ClassId} {K : Nat} {x1 : Int32} {u : XU} {r : Int32} {u2 : XU} (h : fX2_serial n K x1 u = some (r, u2)) : vzC l D (XT cA) (XW a n cA) yX2_serial wsX2_serial rmX2_serial [.ref (a 0), .int x1] u r u2 := vzC.of (by decide) rfl (Nat.le_of_ble_eq_true rfl) (fun p e s m below meth c A ls X hP hD hl => lbX2_serial_e X x1 u s.heap [] ls r u2 h hP hD va_S.rf hl)
abbrev rmX2_valid : Room := { frames := 2, cells := 0, slots := 0, locals := 44 }
theorem in_X2_valid_X2 : ∀ w ∈ u_ws RX2 TX2 4, w ∈ wsX2_valid := fun _ h => List.mem_cons_of_mem _ (List.mem_append_left _ (List.mem_append_right _ h))
theorem in_X2_valid_X1 : ∀ w ∈ u_ws RX1 TX1 11, w ∈ wsX2_valid := fun _ h => List.mem_cons_of_mem _ (List.mem_append_right _ h)
def fX2_valid (n : Nat → Nat) (K : Nat) (x1 : Int32) (u : XU) : Option (Int32 × XU) := (fX1_isBlock n K x1 u).bind fun z1 => (if z1.1 = 0 then (some (zI (-1), z1.2)) else ((fX1_countValid n K x1 z1.2).bind fun z4 => (some (z4.1, z4.2))))
section
variable {p : Program} {l : Launch} {e : Env} {s : State} {m : MethodId} {args : Array Value} {below : List Frame} {meth : Method} {c : Code} {D : va_G} {a n : Nat → Nat} {cA : Nat → ClassId} {A : Nat → Prop}
set_option maxHeartbeats 4000000 in
set_option maxRecDepth 100000 in
theorem lbX2_valid_e {K : Nat} (X : vzX D (XT cA) A wsX2_valid cX2_valid 2 (some .int) RX2 p s m args meth c) : ∀ (x1 : Int32) (u : XU) (H : Heap) (locs : List Loc) (ls : Array Slot) (r : Int32) (u2 : XU), fX2_valid n K x1 u = some (r, u2) → va_P D vwCl (XW a n cA u) H → va_D A (XW a n cA u) → va_S A s.heap H locs → lv_has ls 2 [(0, .ref (a 0)), (1, .int x1)] → W p l e (headSpec wsX2_valid rmX2_valid).room s m args below meth c H locs 0 0 (MQ below (vzQ D (XT cA) (XW a n cA) A r u2) args s 0 0 A) (F0 m 0 ls []) := by
  obtain ⟨hx, hb, hr, hml, hown, hts, hlk, hN, hK, hA⟩ := id X
  intro x1 u H locs ls r u2 hf hP hD hS hl
  unfold fX2_valid at hf
  refine lv_aload_n hx hb dX2_valid_0 rfl (lv_at hl 0 rfl) ?_
  refine va_get (D := D) (ci := 2) (v := .ref (a 1)) (C := RX2) (T := TX2) (N := 4) hx hb hts in_X2_valid_X2 hown hK hP 0 rfl rfl 0 (by decide) (hts _ (List.mem_of_getElem? (i := 1) rfl)) (fun _ h9 => h9) rfl dX2_valid_1 ?_
  refine lv_iload_n hx hb dX2_valid_4 rfl (lv_at hl 1 rfl) ?_
  obtain ⟨z1, hz2, hf⟩ := bd hf
  refine vz_call (rest := []) X (kX1_isBlock hz2) (cwV 1 hts gX2_valid_X1_isBlock rfl rfl rfl (by decide +kernel) ⟨Nat.le_of_ble_eq_true rfl, Nat.le_of_ble_eq_true rfl⟩) 1 1 rfl rfl rfl hl.1 rfl (Nat.le_of_ble_eq_true rfl) dX2_valid_5 ⟨Nat.zero_le _, Nat.zero_le _⟩ hP hD hS (fun H locs hP hD hS => ?_)
  refine lv_if_eq (tgt := 22) hx hb dX2_valid_8 (by decide) (fun c3 => ?_) (fun c3 => ?_)
  · have hf := ift c3 hf
    refine lv_iconst (v := zI (-1)) hx hb dX2_valid_22 (by decide) ?_
    cases hf
    exact vz_iret X hP hD hS dX2_valid_23
  · have hf := iff_ c3 hf
    refine lv_aload_n hx hb dX2_valid_11 rfl (lv_at hl 0 rfl) ?_
    refine va_get (D := D) (ci := 2) (v := .ref (a 1)) (C := RX2) (T := TX2) (N := 4) hx hb hts in_X2_valid_X2 hown hK hP 0 rfl rfl 0 (by decide) (hts _ (List.mem_of_getElem? (i := 1) rfl)) (fun _ h9 => h9) rfl dX2_valid_12 ?_
    refine lv_iload_n hx hb dX2_valid_15 rfl (lv_at hl 1 rfl) ?_
    obtain ⟨z4, hz5, hf⟩ := bd hf
    refine vz_call (rest := []) X (kX1_countValid hz5) (cwV 1 hts gX2_valid_X1_countValid rfl rfl rfl (by decide +kernel) ⟨Nat.le_of_ble_eq_true rfl, Nat.le_of_ble_eq_true rfl⟩) 1 1 rfl rfl rfl hl.1 rfl (Nat.le_of_ble_eq_true rfl) dX2_valid_16 ⟨Nat.zero_le _, Nat.zero_le _⟩ hP hD hS (fun H locs hP hD hS => ?_)
    refine lv_goto (tgt := 23) hx hb dX2_valid_19 (by decide) ?_
    cases hf
    exact vz_iret X hP hD hS dX2_valid_23
end
theorem kX2_valid {l : Launch} {D : va_G} {a n : Nat → Nat} {cA : Nat → ClassId} {K : Nat} {x1 : Int32} {u : XU} {r : Int32} {u2 : XU} (h : fX2_valid n K x1 u = some (r, u2)) : vzC l D (XT cA) (XW a n cA) yX2_valid wsX2_valid rmX2_valid [.ref (a 0), .int x1] u r u2 := vzC.of (by decide) rfl (Nat.le_of_ble_eq_true rfl) (fun p e s m below meth c A ls X hP hD hl => lbX2_valid_e X x1 u s.heap [] ls r u2 h hP hD va_S.rf hl)
abbrev rmX2_erasures : Room := { frames := 1, cells := 0, slots := 0, locals := 21 }
theorem in_X2_erasures_X2 : ∀ w ∈ u_ws RX2 TX2 4, w ∈ wsX2_erasures := fun _ h => List.mem_cons_of_mem _ (List.mem_append_left _ (List.mem_append_right _ h))
theorem in_X2_erasures_X1 : ∀ w ∈ u_ws RX1 TX1 11, w ∈ wsX2_erasures := fun _ h => List.mem_cons_of_mem _ (List.mem_append_right _ h)
def fX2_erasures (n : Nat → Nat) (K : Nat) (x1 : Int32) (u : XU) : Option (Int32 × XU) := (fX1_isBlock n K x1 u).bind fun z1 => (if z1.1 = 0 then (some (zI (-1), z1.2)) else (vg x1 (n 8) (some ((xu_wea z1.2) x1.toNatClampNeg, z1.2))))
section
variable {p : Program} {l : Launch} {e : Env} {s : State} {m : MethodId} {args : Array Value} {below : List Frame} {meth : Method} {c : Code} {D : va_G} {a n : Nat → Nat} {cA : Nat → ClassId} {A : Nat → Prop}
set_option maxHeartbeats 4000000 in
set_option maxRecDepth 100000 in
theorem lbX2_erasures_e {K : Nat} (X : vzX D (XT cA) A wsX2_erasures cX2_erasures 2 (some .int) RX2 p s m args meth c) : ∀ (x1 : Int32) (u : XU) (H : Heap) (locs : List Loc) (ls : Array Slot) (r : Int32) (u2 : XU), fX2_erasures n K x1 u = some (r, u2) → va_P D vwCl (XW a n cA u) H → va_D A (XW a n cA u) → va_S A s.heap H locs → lv_has ls 2 [(0, .ref (a 0)), (1, .int x1)] → W p l e (headSpec wsX2_erasures rmX2_erasures).room s m args below meth c H locs 0 0 (MQ below (vzQ D (XT cA) (XW a n cA) A r u2) args s 0 0 A) (F0 m 0 ls []) := by
  obtain ⟨hx, hb, hr, hml, hown, hts, hlk, hN, hK, hA⟩ := id X
  intro x1 u H locs ls r u2 hf hP hD hS hl
  unfold fX2_erasures at hf
  refine lv_aload_n hx hb dX2_erasures_0 rfl (lv_at hl 0 rfl) ?_
  refine va_get (D := D) (ci := 2) (v := .ref (a 1)) (C := RX2) (T := TX2) (N := 4) hx hb hts in_X2_erasures_X2 hown hK hP 0 rfl rfl 0 (by decide) (hts _ (List.mem_of_getElem? (i := 1) rfl)) (fun _ h9 => h9) rfl dX2_erasures_1 ?_
  refine lv_iload_n hx hb dX2_erasures_4 rfl (lv_at hl 1 rfl) ?_
  obtain ⟨z1, hz2, hf⟩ := bd hf
  refine vz_call (rest := []) X (kX1_isBlock hz2) (cwV 1 hts gX2_erasures_X1_isBlock rfl rfl rfl (by decide +kernel) ⟨Nat.le_of_ble_eq_true rfl, Nat.le_of_ble_eq_true rfl⟩) 1 1 rfl rfl rfl hl.1 rfl (Nat.le_of_ble_eq_true rfl) dX2_erasures_5 ⟨Nat.zero_le _, Nat.zero_le _⟩ hP hD hS (fun H locs hP hD hS => ?_)
  refine lv_if_eq (tgt := 23) hx hb dX2_erasures_8 (by decide) (fun c3 => ?_) (fun c3 => ?_)
  · have hf := ift c3 hf
    refine lv_iconst (v := zI (-1)) hx hb dX2_erasures_23 (by decide) ?_
    cases hf
    exact vz_iret X hP hD hS dX2_erasures_24
  · have hf := iff_ c3 hf
    refine lv_aload_n hx hb dX2_erasures_11 rfl (lv_at hl 0 rfl) ?_
    refine va_get (D := D) (ci := 2) (v := .ref (a 1)) (C := RX2) (T := TX2) (N := 4) hx hb hts in_X2_erasures_X2 hown hK hP 0 rfl rfl 0 (by decide) (hts _ (List.mem_of_getElem? (i := 1) rfl)) (fun _ h9 => h9) rfl dX2_erasures_12 ?_
    refine va_getN (D := D) (ci := 1) (v := .ref (a 8)) (C := RX1) (T := TX1) (N := 11) hx hb hts in_X2_erasures_X1 hown hK hP 1 rfl rfl 6 (by decide) (hN.at 4 rfl) (fun _ h9 => h9) rfl dX2_erasures_15 ?_
    refine lv_iload_n hx hb dX2_erasures_18 rfl (lv_at hl 1 rfl) ?_
    obtain ⟨g4, hf⟩ := vgs hf
    refine va_iald hx hb hK hP 8 5 rfl rfl g4 dX2_erasures_19 ?_
    refine lv_goto (tgt := 24) hx hb dX2_erasures_20 (by decide) ?_
    cases hf
    exact vz_iret X hP hD hS dX2_erasures_24
end
theorem kX2_erasures {l : Launch} {D : va_G} {a n : Nat → Nat} {cA : Nat → ClassId} {K : Nat} {x1 : Int32} {u : XU} {r : Int32} {u2 : XU} (h : fX2_erasures n K x1 u = some (r, u2)) : vzC l D (XT cA) (XW a n cA) yX2_erasures wsX2_erasures rmX2_erasures [.ref (a 0), .int x1] u r u2 := vzC.of (by decide) rfl (Nat.le_of_ble_eq_true rfl) (fun p e s m below meth c A ls X hP hD hl => lbX2_erasures_e X x1 u s.heap [] ls r u2 h hP hD va_S.rf hl)
abbrev rmX2_open : Room := { frames := 0, cells := 0, slots := 0, locals := 0 }
theorem in_X2_open_X2 : ∀ w ∈ u_ws RX2 TX2 4, w ∈ wsX2_open := fun _ h => List.mem_cons_of_mem _ (List.mem_append_right _ h)
def fX2_open (n : Nat → Nat) (K : Nat) (u : XU) : Option (Int32 × XU) := some (xu_opn u, u)
section
variable {p : Program} {l : Launch} {e : Env} {s : State} {m : MethodId} {args : Array Value} {below : List Frame} {meth : Method} {c : Code} {D : va_G} {a n : Nat → Nat} {cA : Nat → ClassId} {A : Nat → Prop}
set_option maxHeartbeats 4000000 in
set_option maxRecDepth 100000 in
theorem lbX2_open_e {K : Nat} (X : vzX D (XT cA) A wsX2_open cX2_open 1 (some .int) RX2 p s m args meth c) : ∀ (u : XU) (H : Heap) (locs : List Loc) (ls : Array Slot) (r : Int32) (u2 : XU), fX2_open n K u = some (r, u2) → va_P D vwCl (XW a n cA u) H → va_D A (XW a n cA u) → va_S A s.heap H locs → lv_has ls 1 [(0, .ref (a 0))] → W p l e (headSpec wsX2_open rmX2_open).room s m args below meth c H locs 0 0 (MQ below (vzQ D (XT cA) (XW a n cA) A r u2) args s 0 0 A) (F0 m 0 ls []) := by
  obtain ⟨hx, hb, hr, hml, hown, hts, hlk, hN, hK, hA⟩ := id X
  intro u H locs ls r u2 hf hP hD hS hl
  unfold fX2_open at hf
  refine lv_aload_n hx hb dX2_open_0 rfl (lv_at hl 0 rfl) ?_
  refine va_get (D := D) (ci := 2) (v := .int (xu_opn u)) (C := RX2) (T := TX2) (N := 4) hx hb hts in_X2_open_X2 hown hK hP 0 rfl rfl 3 (by decide) (hts _ (List.mem_of_getElem? (i := 1) rfl)) (fun _ h9 => h9) rfl dX2_open_1 ?_
  cases hf
  exact vz_iret X hP hD hS dX2_open_4
end
theorem kX2_open {l : Launch} {D : va_G} {a n : Nat → Nat} {cA : Nat → ClassId} {K : Nat} {u : XU} {r : Int32} {u2 : XU} (h : fX2_open n K u = some (r, u2)) : vzC l D (XT cA) (XW a n cA) yX2_open wsX2_open rmX2_open [.ref (a 0)] u r u2 := vzC.of (by decide) rfl (Nat.le_of_ble_eq_true rfl) (fun p e s m below meth c A ls X hP hD hl => lbX2_open_e X u s.heap [] ls r u2 h hP hD va_S.rf hl)
abbrev rmX2_free : Room := { frames := 1, cells := 0, slots := 0, locals := 22 }
theorem in_X2_free_X2 : ∀ w ∈ u_ws RX2 TX2 4, w ∈ wsX2_free := fun _ h => List.mem_cons_of_mem _ (List.mem_append_left _ (List.mem_append_right _ h))
theorem in_X2_free_X1 : ∀ w ∈ u_ws RX1 TX1 11, w ∈ wsX2_free := fun _ h => List.mem_cons_of_mem _ (List.mem_append_right _ h)
def fX2_free (n : Nat → Nat) (K : Nat) (u : XU) : Option (Int32 × XU) := (fX1_countFree n K u).bind fun z1 => (some (z1.1, z1.2))
section
variable {p : Program} {l : Launch} {e : Env} {s : State} {m : MethodId} {args : Array Value} {below : List Frame} {meth : Method} {c : Code} {D : va_G} {a n : Nat → Nat} {cA : Nat → ClassId} {A : Nat → Prop}
set_option maxHeartbeats 4000000 in
set_option maxRecDepth 100000 in
theorem lbX2_free_e {K : Nat} (X : vzX D (XT cA) A wsX2_free cX2_free 1 (some .int) RX2 p s m args meth c) : ∀ (u : XU) (H : Heap) (locs : List Loc) (ls : Array Slot) (r : Int32) (u2 : XU), fX2_free n K u = some (r, u2) → va_P D vwCl (XW a n cA u) H → va_D A (XW a n cA u) → va_S A s.heap H locs → lv_has ls 1 [(0, .ref (a 0))] → W p l e (headSpec wsX2_free rmX2_free).room s m args below meth c H locs 0 0 (MQ below (vzQ D (XT cA) (XW a n cA) A r u2) args s 0 0 A) (F0 m 0 ls []) := by
  obtain ⟨hx, hb, hr, hml, hown, hts, hlk, hN, hK, hA⟩ := id X
  intro u H locs ls r u2 hf hP hD hS hl
  unfold fX2_free at hf
  refine lv_aload_n hx hb dX2_free_0 rfl (lv_at hl 0 rfl) ?_
  refine va_get (D := D) (ci := 2) (v := .ref (a 1)) (C := RX2) (T := TX2) (N := 4) hx hb hts in_X2_free_X2 hown hK hP 0 rfl rfl 0 (by decide) (hts _ (List.mem_of_getElem? (i := 1) rfl)) (fun _ h9 => h9) rfl dX2_free_1 ?_
  obtain ⟨z1, hz2, hf⟩ := bd hf
  refine vz_call (rest := []) X (kX1_countFree hz2) (cwV 0 hts gX2_free_X1_countFree rfl rfl rfl (by decide +kernel) ⟨Nat.le_of_ble_eq_true rfl, Nat.le_of_ble_eq_true rfl⟩) 1 1 rfl rfl rfl hl.1 rfl (Nat.le_of_ble_eq_true rfl) dX2_free_4 ⟨Nat.zero_le _, Nat.zero_le _⟩ hP hD hS (fun H locs hP hD hS => ?_)
  cases hf
  exact vz_iret X hP hD hS dX2_free_7
end
theorem kX2_free {l : Launch} {D : va_G} {a n : Nat → Nat} {cA : Nat → ClassId} {K : Nat} {u : XU} {r : Int32} {u2 : XU} (h : fX2_free n K u = some (r, u2)) : vzC l D (XT cA) (XW a n cA) yX2_free wsX2_free rmX2_free [.ref (a 0)] u r u2 := vzC.of (by decide) rfl (Nat.le_of_ble_eq_true rfl) (fun p e s m below meth c A ls X hP hD hl => lbX2_free_e X u s.heap [] ls r u2 h hP hD va_S.rf hl)
abbrev rmX2_operations : Room := { frames := 0, cells := 0, slots := 0, locals := 0 }
theorem in_X2_operations_X2 : ∀ w ∈ u_ws RX2 TX2 4, w ∈ wsX2_operations := fun _ h => List.mem_cons_of_mem _ (List.mem_append_left _ (List.mem_append_right _ h))
theorem in_X2_operations_X1 : ∀ w ∈ u_ws RX1 TX1 11, w ∈ wsX2_operations := fun _ h => List.mem_cons_of_mem _ (List.mem_append_right _ h)
def fX2_operations (n : Nat → Nat) (K : Nat) (u : XU) : Option (Int32 × XU) := some (xu_ops u, u)
section
variable {p : Program} {l : Launch} {e : Env} {s : State} {m : MethodId} {args : Array Value} {below : List Frame} {meth : Method} {c : Code} {D : va_G} {a n : Nat → Nat} {cA : Nat → ClassId} {A : Nat → Prop}
set_option maxHeartbeats 4000000 in
set_option maxRecDepth 100000 in
theorem lbX2_operations_e {K : Nat} (X : vzX D (XT cA) A wsX2_operations cX2_operations 1 (some .int) RX2 p s m args meth c) : ∀ (u : XU) (H : Heap) (locs : List Loc) (ls : Array Slot) (r : Int32) (u2 : XU), fX2_operations n K u = some (r, u2) → va_P D vwCl (XW a n cA u) H → va_D A (XW a n cA u) → va_S A s.heap H locs → lv_has ls 1 [(0, .ref (a 0))] → W p l e (headSpec wsX2_operations rmX2_operations).room s m args below meth c H locs 0 0 (MQ below (vzQ D (XT cA) (XW a n cA) A r u2) args s 0 0 A) (F0 m 0 ls []) := by
  obtain ⟨hx, hb, hr, hml, hown, hts, hlk, hN, hK, hA⟩ := id X
  intro u H locs ls r u2 hf hP hD hS hl
  unfold fX2_operations at hf
  refine lv_aload_n hx hb dX2_operations_0 rfl (lv_at hl 0 rfl) ?_
  refine va_get (D := D) (ci := 2) (v := .ref (a 1)) (C := RX2) (T := TX2) (N := 4) hx hb hts in_X2_operations_X2 hown hK hP 0 rfl rfl 0 (by decide) (hts _ (List.mem_of_getElem? (i := 1) rfl)) (fun _ h9 => h9) rfl dX2_operations_1 ?_
  refine va_getN (D := D) (ci := 1) (v := .int (xu_ops u)) (C := RX1) (T := TX1) (N := 11) hx hb hts in_X2_operations_X1 hown hK hP 1 rfl rfl 9 (by decide) (hN.at 7 rfl) (fun _ h9 => h9) rfl dX2_operations_4 ?_
  cases hf
  exact vz_iret X hP hD hS dX2_operations_7
end
theorem kX2_operations {l : Launch} {D : va_G} {a n : Nat → Nat} {cA : Nat → ClassId} {K : Nat} {u : XU} {r : Int32} {u2 : XU} (h : fX2_operations n K u = some (r, u2)) : vzC l D (XT cA) (XW a n cA) yX2_operations wsX2_operations rmX2_operations [.ref (a 0)] u r u2 := vzC.of (by decide) rfl (Nat.le_of_ble_eq_true rfl) (fun p e s m below meth c A ls X hP hD hl => lbX2_operations_e X u s.heap [] ls r u2 h hP hD va_S.rf hl)
