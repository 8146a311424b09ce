abbrev rmX3_read : Room := { frames := 2, cells := 0, slots := 0, locals := 41 }
theorem in_X3_read_X3 : ∀ w ∈ u_ws RX3 TX3 16, w ∈ wsX3_read := fun _ h => List.mem_cons_of_mem _ (List.mem_append_right _ h)
def fX3_read (n : Nat → Nat) (K : Nat) (x1 : Int32) (u : MU) : Option (Int32 × MU) := (fX3_isSector n K x1 u).bind fun z1 => (if z1.1 = 0 then ((fX3_isSector n K x1 z1.2).bind fun z5 => (if z5.1 = 0 then (some (zI 0, z5.2)) else ((fX3_newest n K x1 z5.2).bind fun z9 => (if z9.1 = (zI (-1)) then (some (zI 0, z9.2)) else (vg z9.1 (n 2) (some ((mu_val z9.2) (z9.1).toNatClampNeg, z9.2))))))) else ((fX3_find n K x1 z1.2).bind fun z13 => (if z13.1 = (zI (-1)) then ((fX3_isSector n K x1 z13.2).bind fun z16 => (if z16.1 = 0 then (some (zI 0, z16.2)) else ((fX3_newest n K x1 z16.2).bind fun z20 => (if z20.1 = (zI (-1)) then (some (zI 0, z20.2)) else (vg z20.1 (n 2) (some ((mu_val z20.2) (z20.1).toNatClampNeg, z20.2))))))) else (vg z13.1 (n 7) (some ((mu_eva z13.2) (z13.1).toNatClampNeg, z13.2))))))
section
variable {p : Program} {l : Launch} {e : Env} {s : State} {m : MethodId} {args : Array Value} {below : List Frame} {meth : Method} {c : Code} {D : va_G} {a n : Nat → Nat} {cA : Nat → ClassId} {A : Nat → Prop}
set_option maxHeartbeats 4000000 in
set_option maxRecDepth 100000 in
theorem lbX3_read_e {K : Nat} (X : vzX D (MT cA) A wsX3_read cX3_read 4 (some .int) RX3 p s m args meth c) : ∀ (x1 : Int32) (u : MU) (H : Heap) (locs : List Loc) (ls : Array Slot) (r : Int32) (u2 : MU), fX3_read n K x1 u = some (r, u2) → va_P D vwCl (MW a n cA u) H → va_D A (MW a n cA u) → va_S A s.heap H locs → lv_has ls 4 [(0, .ref (a 0)), (1, .int x1)] → W p l e (headSpec wsX3_read rmX3_read).room s m args below meth c H locs 0 0 (MQ below (vzQ D (MT cA) (MW a n cA) A r u2) args s 0 0 A) (F0 m 0 ls []) := by
  obtain ⟨hx, hb, hr, hml, hown, hts, hlk, hN, hK, hA⟩ := id X
  intro x1 u H locs ls r u2 hf hP hD hS hl
  unfold fX3_read at hf
  refine lv_aload_n hx hb dX3_read_0 rfl (lv_at hl 0 rfl) ?_
  refine lv_iload_n hx hb dX3_read_1 rfl (lv_at hl 1 rfl) ?_
  obtain ⟨z1, hz2, hf⟩ := bd hf
  refine vz_call (rest := []) X (kX3_isSector hz2) (cwV 1 hts gX3_read_X3_isSector rfl rfl rfl (by decide +kernel) ⟨Nat.le_of_ble_eq_true rfl, Nat.le_of_ble_eq_true rfl⟩) 0 3 rfl rfl rfl hl.1 rfl (Nat.le_of_ble_eq_true rfl) dX3_read_2 ⟨Nat.zero_le _, Nat.zero_le _⟩ hP hD hS (fun H locs hP hD hS => ?_)
  refine lv_if_eq (tgt := 16) hx hb dX3_read_5 (by decide) (fun c3 => ?_) (fun c3 => ?_)
  · have hf := ift c3 hf
    refine lv_iconst (v := zI (-1)) hx hb dX3_read_16 (by decide) ?_
    refine lv_istore_n (lv' := [(2, .int (zI (-1))), (0, .ref (a 0)), (1, .int x1)]) hx hb dX3_read_17 rfl hl (by decide) rfl (fun ls hl => ?_)
    refine lv_iload_n hx hb dX3_read_18 rfl (lv_at hl 0 rfl) ?_
    refine lv_iconst (v := zI (-1)) hx hb dX3_read_19 (by decide) ?_
    refine lv_icmp_eq (tgt := 30) hx hb dX3_read_20 (by decide) (fun c4 => ?_) (fun c4 => absurd (by decide) c4)
    refine lv_aload_n hx hb dX3_read_30 rfl (lv_at hl 1 rfl) ?_
    refine lv_iload_n hx hb dX3_read_31 rfl (lv_at hl 2 rfl) ?_
    obtain ⟨z5, hz6, hf⟩ := bd hf
    refine vz_call (rest := []) X (kX3_isSector hz6) (cwV 1 hts gX3_read_X3_isSector rfl rfl rfl (by decide +kernel) ⟨Nat.le_of_ble_eq_true rfl, Nat.le_of_ble_eq_true rfl⟩) 0 3 rfl rfl rfl hl.1 rfl (Nat.le_of_ble_eq_true rfl) dX3_read_32 ⟨Nat.zero_le _, Nat.zero_le _⟩ hP hD hS (fun H locs hP hD hS => ?_)
    refine lv_if_eq (tgt := 46) hx hb dX3_read_35 (by decide) (fun c7 => ?_) (fun c7 => ?_)
    · have hf := ift c7 hf
      refine lv_iconst (v := zI (-1)) hx hb dX3_read_46 (by decide) ?_
      refine lv_istore_n (lv' := [(3, .int (zI (-1))), (2, .int (zI (-1))), (0, .ref (a 0)), (1, .int x1)]) hx hb dX3_read_47 rfl hl (by decide) rfl (fun ls hl => ?_)
      refine lv_iload_n hx hb dX3_read_48 rfl (lv_at hl 0 rfl) ?_
      refine lv_iconst (v := zI (-1)) hx hb dX3_read_49 (by decide) ?_
      refine lv_icmp_ne (tgt := 57) hx hb dX3_read_50 (by decide) (fun c8 => absurd (by decide) c8) (fun c8 => ?_)
      refine lv_iconst (v := zI 0) hx hb dX3_read_53 (by decide) ?_
      refine lv_goto (tgt := 63) hx hb dX3_read_54 (by decide) ?_
      cases hf
      exact vz_iret X hP hD hS dX3_read_63
    · have hf := iff_ c7 hf
      refine lv_aload_n hx hb dX3_read_38 rfl (lv_at hl 1 rfl) ?_
      refine lv_iload_n hx hb dX3_read_39 rfl (lv_at hl 2 rfl) ?_
      obtain ⟨z9, hz10, hf⟩ := bd hf
      refine vz_call (rest := []) X (kX3_newest hz10) (cwV 1 hts gX3_read_X3_newest rfl rfl rfl (by decide +kernel) ⟨Nat.le_of_ble_eq_true rfl, Nat.le_of_ble_eq_true rfl⟩) 0 3 rfl rfl rfl hl.1 rfl (Nat.le_of_ble_eq_true rfl) dX3_read_40 ⟨Nat.zero_le _, Nat.zero_le _⟩ hP hD hS (fun H locs hP hD hS => ?_)
      refine lv_goto (tgt := 47) hx hb dX3_read_43 (by decide) ?_
      refine lv_istore_n (lv' := [(3, .int z9.1), (2, .int (zI (-1))), (0, .ref (a 0)), (1, .int x1)]) hx hb dX3_read_47 rfl hl (by decide) rfl (fun ls hl => ?_)
      refine lv_iload_n hx hb dX3_read_48 rfl (lv_at hl 0 rfl) ?_
      refine lv_iconst (v := zI (-1)) hx hb dX3_read_49 (by decide) ?_
      refine lv_icmp_ne (tgt := 57) hx hb dX3_read_50 (by decide) (fun c11 => ?_) (fun c11 => ?_)
      · have hf := iff_ c11 hf
        refine lv_aload_n hx hb dX3_read_57 rfl (lv_at hl 2 rfl) ?_
        refine va_get (D := D) (ci := 3) (v := .ref (a 2)) (C := RX3) (T := TX3) (N := 16) hx hb hts in_X3_read_X3 hown hK hP 0 rfl rfl 3 (by decide) (hts _ (List.mem_of_getElem? (i := 2) rfl)) (fun _ h9 => h9) rfl dX3_read_58 ?_
        refine lv_iload_n hx hb dX3_read_61 rfl (lv_at hl 0 rfl) ?_
        obtain ⟨g12, hf⟩ := vgs hf
        refine va_iald hx hb hK hP 2 1 rfl rfl g12 dX3_read_62 ?_
        cases hf
        exact vz_iret X hP hD hS dX3_read_63
      · have hf := ift c11 hf
        refine lv_iconst (v := zI 0) hx hb dX3_read_53 (by decide) ?_
        refine lv_goto (tgt := 63) hx hb dX3_read_54 (by decide) ?_
        cases hf
        exact vz_iret X hP hD hS dX3_read_63
  · have hf := iff_ c3 hf
    refine lv_aload_n hx hb dX3_read_8 rfl (lv_at hl 0 rfl) ?_
    refine lv_iload_n hx hb dX3_read_9 rfl (lv_at hl 1 rfl) ?_
    obtain ⟨z13, hz14, hf⟩ := bd hf
    refine vz_call (rest := []) X (kX3_find hz14) (cwV 1 hts gX3_read_X3_find rfl rfl rfl (by decide +kernel) ⟨Nat.le_of_ble_eq_true rfl, Nat.le_of_ble_eq_true rfl⟩) 0 3 rfl rfl rfl hl.1 rfl (Nat.le_of_ble_eq_true rfl) dX3_read_10 ⟨Nat.zero_le _, Nat.zero_le _⟩ hP hD hS (fun H locs hP hD hS => ?_)
    refine lv_goto (tgt := 17) hx hb dX3_read_13 (by decide) ?_
    refine lv_istore_n (lv' := [(2, .int z13.1), (0, .ref (a 0)), (1, .int x1)]) hx hb dX3_read_17 rfl hl (by decide) rfl (fun ls hl => ?_)
    refine lv_iload_n hx hb dX3_read_18 rfl (lv_at hl 0 rfl) ?_
    refine lv_iconst (v := zI (-1)) hx hb dX3_read_19 (by decide) ?_
    refine lv_icmp_eq (tgt := 30) hx hb dX3_read_20 (by decide) (fun c15 => ?_) (fun c15 => ?_)
    · have hf := ift c15 hf
      refine lv_aload_n hx hb dX3_read_30 rfl (lv_at hl 1 rfl) ?_
      refine lv_iload_n hx hb dX3_read_31 rfl (lv_at hl 2 rfl) ?_
      obtain ⟨z16, hz17, hf⟩ := bd hf
      refine vz_call (rest := []) X (kX3_isSector hz17) (cwV 1 hts gX3_read_X3_isSector rfl rfl rfl (by decide +kernel) ⟨Nat.le_of_ble_eq_true rfl, Nat.le_of_ble_eq_true rfl⟩) 0 3 rfl rfl rfl hl.1 rfl (Nat.le_of_ble_eq_true rfl) dX3_read_32 ⟨Nat.zero_le _, Nat.zero_le _⟩ hP hD hS (fun H locs hP hD hS => ?_)
      refine lv_if_eq (tgt := 46) hx hb dX3_read_35 (by decide) (fun c18 => ?_) (fun c18 => ?_)
      · have hf := ift c18 hf
        refine lv_iconst (v := zI (-1)) hx hb dX3_read_46 (by decide) ?_
        refine lv_istore_n (lv' := [(3, .int (zI (-1))), (2, .int z13.1), (0, .ref (a 0)), (1, .int x1)]) hx hb dX3_read_47 rfl hl (by decide) rfl (fun ls hl => ?_)
        refine lv_iload_n hx hb dX3_read_48 rfl (lv_at hl 0 rfl) ?_
        refine lv_iconst (v := zI (-1)) hx hb dX3_read_49 (by decide) ?_
        refine lv_icmp_ne (tgt := 57) hx hb dX3_read_50 (by decide) (fun c19 => absurd (by decide) c19) (fun c19 => ?_)
        refine lv_iconst (v := zI 0) hx hb dX3_read_53 (by decide) ?_
        refine lv_goto (tgt := 63) hx hb dX3_read_54 (by decide) ?_
        cases hf
        exact vz_iret X hP hD hS dX3_read_63
      · have hf := iff_ c18 hf
        refine lv_aload_n hx hb dX3_read_38 rfl (lv_at hl 1 rfl) ?_
        refine lv_iload_n hx hb dX3_read_39 rfl (lv_at hl 2 rfl) ?_
        obtain ⟨z20, hz21, hf⟩ := bd hf
        refine vz_call (rest := []) X (kX3_newest hz21) (cwV 1 hts gX3_read_X3_newest rfl rfl rfl (by decide +kernel) ⟨Nat.le_of_ble_eq_true rfl, Nat.le_of_ble_eq_true rfl⟩) 0 3 rfl rfl rfl hl.1 rfl (Nat.le_of_ble_eq_true rfl) dX3_read_40 ⟨Nat.zero_le _, Nat.zero_le _⟩ hP hD hS (fun H locs hP hD hS => ?_)
        refine lv_goto (tgt := 47) hx hb dX3_read_43 (by decide) ?_
        refine lv_istore_n (lv' := [(3, .int z20.1), (2, .int z13.1), (0, .ref (a 0)), (1, .int x1)]) hx hb dX3_read_47 rfl hl (by decide) rfl (fun ls hl => ?_)
        refine lv_iload_n hx hb dX3_read_48 rfl (lv_at hl 0 rfl) ?_
        refine lv_iconst (v := zI (-1)) hx hb dX3_read_49 (by decide) ?_
        refine lv_icmp_ne (tgt := 57) hx hb dX3_read_50 (by decide) (fun c22 => ?_) (fun c22 => ?_)
        · have hf := iff_ c22 hf
          refine lv_aload_n hx hb dX3_read_57 rfl (lv_at hl 2 rfl) ?_
          refine va_get (D := D) (ci := 3) (v := .ref (a 2)) (C := RX3) (T := TX3) (N := 16) hx hb hts in_X3_read_X3 hown hK hP 0 rfl rfl 3 (by decide) (hts _ (List.mem_of_getElem? (i := 2) rfl)) (fun _ h9 => h9) rfl dX3_read_58 ?_
          refine lv_iload_n hx hb dX3_read_61 rfl (lv_at hl 0 rfl) ?_
          obtain ⟨g23, hf⟩ := vgs hf
          refine va_iald hx hb hK hP 2 1 rfl rfl g23 dX3_read_62 ?_
          cases hf
          exact vz_iret X hP hD hS dX3_read_63
        · have hf := ift c22 hf
          refine lv_iconst (v := zI 0) hx hb dX3_read_53 (by decide) ?_
          refine lv_goto (tgt := 63) hx hb dX3_read_54 (by decide) ?_
          cases hf
          exact vz_iret X hP hD hS dX3_read_63
    · have hf := iff_ c15 hf
      refine lv_aload_n hx hb dX3_read_23 rfl (lv_at hl 1 rfl) ?_
      refine va_get (D := D) (ci := 3) (v := .ref (a 7)) (C := RX3) (T := TX3) (N := 16) hx hb hts in_X3_read_X3 hown hK hP 0 rfl rfl 14 (by decide) (hts _ (List.mem_of_getElem? (i := 1) rfl)) (fun _ h9 => h9) rfl dX3_read_24 ?_
      refine lv_iload_n hx hb dX3_read_27 rfl (lv_at hl 0 rfl) ?_
      obtain ⟨g24, hf⟩ := vgs hf
      refine va_iald hx hb hK hP 7 6 rfl rfl g24 dX3_read_28 ?_
      cases hf
      exact vz_iret X hP hD hS dX3_read_29
end
theorem kX3_read {l : Launch} {D : va_G} {a n : Nat → Nat} {cA : Nat → ClassId} {K : Nat} {x1 : Int32} {u : MU} {r : Int32} {u2 : MU} (h : fX3_read n K x1 u = some (r, u2)) : vzC l D (MT cA) (MW a n cA) yX3_read wsX3_read rmX3_read [.ref (a 0), .int x1] u r u2 := vzC.of (by decide) rfl (Nat.le_of_ble_eq_true rfl) (fun p e s m below meth c A ls X hP hD hl => lbX3_read_e X x1 u s.heap [] ls r u2 h hP hD va_S.rf hl)
abbrev rmX3_holds : Room := { frames := 2, cells := 0, slots := 0, locals := 41 }
theorem in_X3_holds_X3 : ∀ w ∈ u_ws RX3 TX3 16, w ∈ wsX3_holds := fun _ h => List.mem_cons_of_mem _ (List.mem_append_right _ h)
def fX3_holds (n : Nat → Nat) (K : Nat) (x1 : Int32) (u : MU) : Option (Int32 × MU) := (fX3_isSector n K x1 u).bind fun z1 => (if z1.1 = 0 then ((fX3_isSector n K x1 z1.2).bind fun z5 => (if z5.1 = 0 then (some (zI 0, z5.2)) else ((fX3_newest n K x1 z5.2).bind fun z9 => (if z9.1 = (zI (-1)) then (some (zI 0, z9.2)) else (vg z9.1 (n 4) (some ((mu_sor z9.2) (z9.1).toNatClampNeg, z9.2))))))) else ((fX3_find n K x1 z1.2).bind fun z13 => (if z13.1 = (zI (-1)) then ((fX3_isSector n K x1 z13.2).bind fun z16 => (if z16.1 = 0 then (some (zI 0, z16.2)) else ((fX3_newest n K x1 z16.2).bind fun z20 => (if z20.1 = (zI (-1)) then (some (zI 0, z20.2)) else (vg z20.1 (n 4) (some ((mu_sor z20.2) (z20.1).toNatClampNeg, z20.2))))))) else (vg z13.1 (n 8) (some ((mu_eso z13.2) (z13.1).toNatClampNeg, z13.2))))))
section
variable {p : Program} {l : Launch} {e : Env} {s : State} {m : MethodId} {args : Array Value} {below : List Frame} {meth : Method} {c : Code} {D : va_G} {a n : Nat → Nat} {cA : Nat → ClassId} {A : Nat → Prop}
set_option maxHeartbeats 4000000 in
set_option maxRecDepth 100000 in
theorem lbX3_holds_e {K : Nat} (X : vzX D (MT cA) A wsX3_holds cX3_holds 4 (some .int) RX3 p s m args meth c) : ∀ (x1 : Int32) (u : MU) (H : Heap) (locs : List Loc) (ls : Array Slot) (r : Int32) (u2 : MU), fX3_holds n K x1 u = some (r, u2) → va_P D vwCl (MW a n cA u) H → va_D A (MW a n cA u) → va_S A s.heap H locs → lv_has ls 4 [(0, .ref (a 0)), (1, .int x1)] → W p l e (headSpec wsX3_holds rmX3_holds).room s m args below meth c H locs 0 0 (MQ below (vzQ D (MT cA) (MW a n cA) A r u2) args s 0 0 A) (F0 m 0 ls []) := by
  obtain ⟨hx, hb, hr, hml, hown, hts, hlk, hN, hK, hA⟩ := id X
  intro x1 u H locs ls r u2 hf hP hD hS hl
  unfold fX3_holds at hf
  refine lv_aload_n hx hb dX3_holds_0 rfl (lv_at hl 0 rfl) ?_
  refine lv_iload_n hx hb dX3_holds_1 rfl (lv_at hl 1 rfl) ?_
  obtain ⟨z1, hz2, hf⟩ := bd hf
  refine vz_call (rest := []) X (kX3_isSector hz2) (cwV 1 hts gX3_holds_X3_isSector rfl rfl rfl (by decide +kernel) ⟨Nat.le_of_ble_eq_true rfl, Nat.le_of_ble_eq_true rfl⟩) 0 3 rfl rfl rfl hl.1 rfl (Nat.le_of_ble_eq_true rfl) dX3_holds_2 ⟨Nat.zero_le _, Nat.zero_le _⟩ hP hD hS (fun H locs hP hD hS => ?_)
  refine lv_if_eq (tgt := 16) hx hb dX3_holds_5 (by decide) (fun c3 => ?_) (fun c3 => ?_)
  · have hf := ift c3 hf
    refine lv_iconst (v := zI (-1)) hx hb dX3_holds_16 (by decide) ?_
    refine lv_istore_n (lv' := [(2, .int (zI (-1))), (0, .ref (a 0)), (1, .int x1)]) hx hb dX3_holds_17 rfl hl (by decide) rfl (fun ls hl => ?_)
    refine lv_iload_n hx hb dX3_holds_18 rfl (lv_at hl 0 rfl) ?_
    refine lv_iconst (v := zI (-1)) hx hb dX3_holds_19 (by decide) ?_
    refine lv_icmp_eq (tgt := 30) hx hb dX3_holds_20 (by decide) (fun c4 => ?_) (fun c4 => absurd (by decide) c4)
    refine lv_aload_n hx hb dX3_holds_30 rfl (lv_at hl 1 rfl) ?_
    refine lv_iload_n hx hb dX3_holds_31 rfl (lv_at hl 2 rfl) ?_
    obtain ⟨z5, hz6, hf⟩ := bd hf
    refine vz_call (rest := []) X (kX3_isSector hz6) (cwV 1 hts gX3_holds_X3_isSector rfl rfl rfl (by decide +kernel) ⟨Nat.le_of_ble_eq_true rfl, Nat.le_of_ble_eq_true rfl⟩) 0 3 rfl rfl rfl hl.1 rfl (Nat.le_of_ble_eq_true rfl) dX3_holds_32 ⟨Nat.zero_le _, Nat.zero_le _⟩ hP hD hS (fun H locs hP hD hS => ?_)
    refine lv_if_eq (tgt := 46) hx hb dX3_holds_35 (by decide) (fun c7 => ?_) (fun c7 => ?_)
    · have hf := ift c7 hf
      refine lv_iconst (v := zI (-1)) hx hb dX3_holds_46 (by decide) ?_
      refine lv_istore_n (lv' := [(3, .int (zI (-1))), (2, .int (zI (-1))), (0, .ref (a 0)), (1, .int x1)]) hx hb dX3_holds_47 rfl hl (by decide) rfl (fun ls hl => ?_)
      refine lv_iload_n hx hb dX3_holds_48 rfl (lv_at hl 0 rfl) ?_
      refine lv_iconst (v := zI (-1)) hx hb dX3_holds_49 (by decide) ?_
      refine lv_icmp_ne (tgt := 57) hx hb dX3_holds_50 (by decide) (fun c8 => absurd (by decide) c8) (fun c8 => ?_)
      refine lv_iconst (v := zI 0) hx hb dX3_holds_53 (by decide) ?_
      refine lv_goto (tgt := 63) hx hb dX3_holds_54 (by decide) ?_
      cases hf
      exact vz_iret X hP hD hS dX3_holds_63
    · have hf := iff_ c7 hf
      refine lv_aload_n hx hb dX3_holds_38 rfl (lv_at hl 1 rfl) ?_
      refine lv_iload_n hx hb dX3_holds_39 rfl (lv_at hl 2 rfl) ?_
      obtain ⟨z9, hz10, hf⟩ := bd hf
      refine vz_call (rest := []) X (kX3_newest hz10) (cwV 1 hts gX3_holds_X3_newest rfl rfl rfl (by decide +kernel) ⟨Nat.le_of_ble_eq_true rfl, Nat.le_of_ble_eq_true rfl⟩) 0 3 rfl rfl rfl hl.1 rfl (Nat.le_of_ble_eq_true rfl) dX3_holds_40 ⟨Nat.zero_le _, Nat.zero_le _⟩ hP hD hS (fun H locs hP hD hS => ?_)
      refine lv_goto (tgt := 47) hx hb dX3_holds_43 (by decide) ?_
      refine lv_istore_n (lv' := [(3, .int z9.1), (2, .int (zI (-1))), (0, .ref (a 0)), (1, .int x1)]) hx hb dX3_holds_47 rfl hl (by decide) rfl (fun ls hl => ?_)
      refine lv_iload_n hx hb dX3_holds_48 rfl (lv_at hl 0 rfl) ?_
      refine lv_iconst (v := zI (-1)) hx hb dX3_holds_49 (by decide) ?_
      refine lv_icmp_ne (tgt := 57) hx hb dX3_holds_50 (by decide) (fun c11 => ?_) (fun c11 => ?_)
      · have hf := iff_ c11 hf
        refine lv_aload_n hx hb dX3_holds_57 rfl (lv_at hl 2 rfl) ?_
        refine va_get (D := D) (ci := 3) (v := .ref (a 4)) (C := RX3) (T := TX3) (N := 16) hx hb hts in_X3_holds_X3 hown hK hP 0 rfl rfl 5 (by decide) (hts _ (List.mem_of_getElem? (i := 2) rfl)) (fun _ h9 => h9) rfl dX3_holds_58 ?_
        refine lv_iload_n hx hb dX3_holds_61 rfl (lv_at hl 0 rfl) ?_
        obtain ⟨g12, hf⟩ := vgs hf
        refine va_iald hx hb hK hP 4 3 rfl rfl g12 dX3_holds_62 ?_
        cases hf
        exact vz_iret X hP hD hS dX3_holds_63
      · have hf := ift c11 hf
        refine lv_iconst (v := zI 0) hx hb dX3_holds_53 (by decide) ?_
        refine lv_goto (tgt := 63) hx hb dX3_holds_54 (by decide) ?_
        cases hf
        exact vz_iret X hP hD hS dX3_holds_63
  · have hf := iff_ c3 hf
    refine lv_aload_n hx hb dX3_holds_8 rfl (lv_at hl 0 rfl) ?_
    refine lv_iload_n hx hb dX3_holds_9 rfl (lv_at hl 1 rfl) ?_
    obtain ⟨z13, hz14, hf⟩ := bd hf
    refine vz_call (rest := []) X (kX3_find hz14) (cwV 1 hts gX3_holds_X3_find rfl rfl rfl (by decide +kernel) ⟨Nat.le_of_ble_eq_true rfl, Nat.le_of_ble_eq_true rfl⟩) 0 3 rfl rfl rfl hl.1 rfl (Nat.le_of_ble_eq_true rfl) dX3_holds_10 ⟨Nat.zero_le _, Nat.zero_le _⟩ hP hD hS (fun H locs hP hD hS => ?_)
    refine lv_goto (tgt := 17) hx hb dX3_holds_13 (by decide) ?_
    refine lv_istore_n (lv' := [(2, .int z13.1), (0, .ref (a 0)), (1, .int x1)]) hx hb dX3_holds_17 rfl hl (by decide) rfl (fun ls hl => ?_)
    refine lv_iload_n hx hb dX3_holds_18 rfl (lv_at hl 0 rfl) ?_
    refine lv_iconst (v := zI (-1)) hx hb dX3_holds_19 (by decide) ?_
    refine lv_icmp_eq (tgt := 30) hx hb dX3_holds_20 (by decide) (fun c15 => ?_) (fun c15 => ?_)
    · have hf := ift c15 hf
      refine lv_aload_n hx hb dX3_holds_30 rfl (lv_at hl 1 rfl) ?_
      refine lv_iload_n hx hb dX3_holds_31 rfl (lv_at hl 2 rfl) ?_
      obtain ⟨z16, hz17, hf⟩ := bd hf
      refine vz_call (rest := []) X (kX3_isSector hz17) (cwV 1 hts gX3_holds_X3_isSector rfl rfl rfl (by decide +kernel) ⟨Nat.le_of_ble_eq_true rfl, Nat.le_of_ble_eq_true rfl⟩) 0 3 rfl rfl rfl hl.1 rfl (Nat.le_of_ble_eq_true rfl) dX3_holds_32 ⟨Nat.zero_le _, Nat.zero_le _⟩ hP hD hS (fun H locs hP hD hS => ?_)
      refine lv_if_eq (tgt := 46) hx hb dX3_holds_35 (by decide) (fun c18 => ?_) (fun c18 => ?_)
      · have hf := ift c18 hf
        refine lv_iconst (v := zI (-1)) hx hb dX3_holds_46 (by decide) ?_
        refine lv_istore_n (lv' := [(3, .int (zI (-1))), (2, .int z13.1), (0, .ref (a 0)), (1, .int x1)]) hx hb dX3_holds_47 rfl hl (by decide) rfl (fun ls hl => ?_)
        refine lv_iload_n hx hb dX3_holds_48 rfl (lv_at hl 0 rfl) ?_
        refine lv_iconst (v := zI (-1)) hx hb dX3_holds_49 (by decide) ?_
        refine lv_icmp_ne (tgt := 57) hx hb dX3_holds_50 (by decide) (fun c19 => absurd (by decide) c19) (fun c19 => ?_)
        refine lv_iconst (v := zI 0) hx hb dX3_holds_53 (by decide) ?_
        refine lv_goto (tgt := 63) hx hb dX3_holds_54 (by decide) ?_
        cases hf
        exact vz_iret X hP hD hS dX3_holds_63
      · have hf := iff_ c18 hf
        refine lv_aload_n hx hb dX3_holds_38 rfl (lv_at hl 1 rfl) ?_
        refine lv_iload_n hx hb dX3_holds_39 rfl (lv_at hl 2 rfl) ?_
        obtain ⟨z20, hz21, hf⟩ := bd hf
        refine vz_call (rest := []) X (kX3_newest hz21) (cwV 1 hts gX3_holds_X3_newest rfl rfl rfl (by decide +kernel) ⟨Nat.le_of_ble_eq_true rfl, Nat.le_of_ble_eq_true rfl⟩) 0 3 rfl rfl rfl hl.1 rfl (Nat.le_of_ble_eq_true rfl) dX3_holds_40 ⟨Nat.zero_le _, Nat.zero_le _⟩ hP hD hS (fun H locs hP hD hS => ?_)
        refine lv_goto (tgt := 47) hx hb dX3_holds_43 (by decide) ?_
        refine lv_istore_n (lv' := [(3, .int z20.1), (2, .int z13.1), (0, .ref (a 0)), (1, .int x1)]) hx hb dX3_holds_47 rfl hl (by decide) rfl (fun ls hl => ?_)
        refine lv_iload_n hx hb dX3_holds_48 rfl (lv_at hl 0 rfl) ?_
        refine lv_iconst (v := zI (-1)) hx hb dX3_holds_49 (by decide) ?_
        refine lv_icmp_ne (tgt := 57) hx hb dX3_holds_50 (by decide) (fun c22 => ?_) (fun c22 => ?_)
        · have hf := iff_ c22 hf
          refine lv_aload_n hx hb dX3_holds_57 rfl (lv_at hl 2 rfl) ?_
          refine va_get (D := D) (ci := 3) (v := .ref (a 4)) (C := RX3) (T := TX3) (N := 16) hx hb hts in_X3_holds_X3 hown hK hP 0 rfl rfl 5 (by decide) (hts _ (List.mem_of_getElem? (i := 2) rfl)) (fun _ h9 => h9) rfl dX3_holds_58 ?_
          refine lv_iload_n hx hb dX3_holds_61 rfl (lv_at hl 0 rfl) ?_
          obtain ⟨g23, hf⟩ := vgs hf
          refine va_iald hx hb hK hP 4 3 rfl rfl g23 dX3_holds_62 ?_
          cases hf
          exact vz_iret X hP hD hS dX3_holds_63
        · have hf := ift c22 hf
          refine lv_iconst (v := zI 0) hx hb dX3_holds_53 (by decide) ?_
          refine lv_goto (tgt := 63) hx hb dX3_holds_54 (by decide) ?_
          cases hf
          exact vz_iret X hP hD hS dX3_holds_63
    · have hf := iff_ c15 hf
      refine lv_aload_n hx hb dX3_holds_23 rfl (lv_at hl 1 rfl) ?_
      refine va_get (D := D) (ci := 3) (v := .ref (a 8)) (C := RX3) (T := TX3) (N := 16) hx hb hts in_X3_holds_X3 hown hK hP 0 rfl rfl 15 (by decide) (hts _ (List.mem_of_getElem? (i := 1) rfl)) (fun _ h9 => h9) rfl dX3_holds_24 ?_
      refine lv_iload_n hx hb dX3_holds_27 rfl (lv_at hl 0 rfl) ?_
      obtain ⟨g24, hf⟩ := vgs hf
      refine va_iald hx hb hK hP 8 7 rfl rfl g24 dX3_holds_28 ?_
      cases hf
      exact vz_iret X hP hD hS dX3_holds_29
end
theorem kX3_holds {l : Launch} {D : va_G} {a n : Nat → Nat} {cA : Nat → ClassId} {K : Nat} {x1 : Int32} {u : MU} {r : Int32} {u2 : MU} (h : fX3_holds n K x1 u = some (r, u2)) : vzC l D (MT cA) (MW a n cA) yX3_holds wsX3_holds rmX3_holds [.ref (a 0), .int x1] u r u2 := vzC.of (by decide) rfl (Nat.le_of_ble_eq_true rfl) (fun p e s m below meth c A ls X hP hD hl => lbX3_holds_e X x1 u s.heap [] ls r u2 h hP hD va_S.rf hl)
abbrev rmX3_buffered : Room := { frames := 0, cells := 0, slots := 0, locals := 0 }
theorem in_X3_buffered_X3 : ∀ w ∈ u_ws RX3 TX3 16, w ∈ wsX3_buffered := fun _ h => List.mem_cons_of_mem _ (List.mem_append_right _ h)
def fX3_buffered (n : Nat → Nat) (K : Nat) (u : MU) : Option (Int32 × MU) := some (mu_ent u, u)
section
variable {p : Program} {l : Launch} {e : Env} {s : State} {m : MethodId} {args : Array Value} {below : List Frame} {meth : Method} {c : Code} {D : va_G} {a n : Nat → Nat} {cA : Nat → ClassId} {A : Nat → Prop}
set_option maxHeartbeats 4000000 in
set_option maxRecDepth 100000 in
theorem lbX3_buffered_e {K : Nat} (X : vzX D (MT cA) A wsX3_buffered cX3_buffered 1 (some .int) RX3 p s m args meth c) : ∀ (u : MU) (H : Heap) (locs : List Loc) (ls : Array Slot) (r : Int32) (u2 : MU), fX3_buffered n K u = some (r, u2) → va_P D vwCl (MW a n cA u) H → va_D A (MW a n cA u) → va_S A s.heap H locs → lv_has ls 1 [(0, .ref (a 0))] → W p l e (headSpec wsX3_buffered rmX3_buffered).room s m args below meth c H locs 0 0 (MQ below (vzQ D (MT cA) (MW a n cA) A r u2) args s 0 0 A) (F0 m 0 ls []) := by
  obtain ⟨hx, hb, hr, hml, hown, hts, hlk, hN, hK, hA⟩ := id X
  intro u H locs ls r u2 hf hP hD hS hl
  unfold fX3_buffered at hf
  refine lv_aload_n hx hb dX3_buffered_0 rfl (lv_at hl 0 rfl) ?_
  refine va_get (D := D) (ci := 3) (v := .int (mu_ent u)) (C := RX3) (T := TX3) (N := 16) hx hb hts in_X3_buffered_X3 hown hK hP 0 rfl rfl 12 (by decide) (hts _ (List.mem_of_getElem? (i := 1) rfl)) (fun _ h9 => h9) rfl dX3_buffered_1 ?_
  cases hf
  exact vz_iret X hP hD hS dX3_buffered_4
end
theorem kX3_buffered {l : Launch} {D : va_G} {a n : Nat → Nat} {cA : Nat → ClassId} {K : Nat} {u : MU} {r : Int32} {u2 : MU} (h : fX3_buffered n K u = some (r, u2)) : vzC l D (MT cA) (MW a n cA) yX3_buffered wsX3_buffered rmX3_buffered [.ref (a 0)] u r u2 := vzC.of (by decide) rfl (Nat.le_of_ble_eq_true rfl) (fun p e s m below meth c A ls X hP hD hl => lbX3_buffered_e X u s.heap [] ls r u2 h hP hD va_S.rf hl)
abbrev rmX3_place : Room := { frames := 2, cells := 0, slots := 0, locals := 41 }
theorem in_X3_place_X3 : ∀ w ∈ u_ws RX3 TX3 16, w ∈ wsX3_place := fun _ h => List.mem_cons_of_mem _ (List.mem_append_right _ h)
def fX3_place (n : Nat → Nat) (K : Nat) (x1 : Int32) (u : MU) : Option (Int32 × MU) := (fX3_isSector n K x1 u).bind fun z1 => (if z1.1 = 0 then (some (zI (-1), z1.2)) else ((fX3_newest n K x1 z1.2).bind fun z4 => (some (z4.1, z4.2))))
section
variable {p : Program} {l : Launch} {e : Env} {s : State} {m : MethodId} {args : Array Value} {below : List Frame} {meth : Method} {c : Code} {D : va_G} {a n : Nat → Nat} {cA : Nat → ClassId} {A : Nat → Prop}
set_option maxHeartbeats 4000000 in
set_option maxRecDepth 100000 in
theorem lbX3_place_e {K : Nat} (X : vzX D (MT cA) A wsX3_place cX3_place 2 (some .int) RX3 p s m args meth c) : ∀ (x1 : Int32) (u : MU) (H : Heap) (locs : List Loc) (ls : Array Slot) (r : Int32) (u2 : MU), fX3_place n K x1 u = some (r, u2) → va_P D vwCl (MW a n cA u) H → va_D A (MW a n cA u) → va_S A s.heap H locs → lv_has ls 2 [(0, .ref (a 0)), (1, .int x1)] → W p l e (headSpec wsX3_place rmX3_place).room s m args below meth c H locs 0 0 (MQ below (vzQ D (MT cA) (MW a n cA) A r u2) args s 0 0 A) (F0 m 0 ls []) := by
  obtain ⟨hx, hb, hr, hml, hown, hts, hlk, hN, hK, hA⟩ := id X
  intro x1 u H locs ls r u2 hf hP hD hS hl
  unfold fX3_place at hf
  refine lv_aload_n hx hb dX3_place_0 rfl (lv_at hl 0 rfl) ?_
  refine lv_iload_n hx hb dX3_place_1 rfl (lv_at hl 1 rfl) ?_
  obtain ⟨z1, hz2, hf⟩ := bd hf
  refine vz_call (rest := []) X (kX3_isSector hz2) (cwV 1 hts gX3_place_X3_isSector rfl rfl rfl (by decide +kernel) ⟨Nat.le_of_ble_eq_true rfl, Nat.le_of_ble_eq_true rfl⟩) 0 3 rfl rfl rfl hl.1 rfl (Nat.le_of_ble_eq_true rfl) dX3_place_2 ⟨Nat.zero_le _, Nat.zero_le _⟩ hP hD hS (fun H locs hP hD hS => ?_)
  refine lv_if_eq (tgt := 16) hx hb dX3_place_5 (by decide) (fun c3 => ?_) (fun c3 => ?_)
  · have hf := ift c3 hf
    refine lv_iconst (v := zI (-1)) hx hb dX3_place_16 (by decide) ?_
    cases hf
    exact vz_iret X hP hD hS dX3_place_17
  · have hf := iff_ c3 hf
    refine lv_aload_n hx hb dX3_place_8 rfl (lv_at hl 0 rfl) ?_
    refine lv_iload_n hx hb dX3_place_9 rfl (lv_at hl 1 rfl) ?_
    obtain ⟨z4, hz5, hf⟩ := bd hf
    refine vz_call (rest := []) X (kX3_newest hz5) (cwV 1 hts gX3_place_X3_newest rfl rfl rfl (by decide +kernel) ⟨Nat.le_of_ble_eq_true rfl, Nat.le_of_ble_eq_true rfl⟩) 0 3 rfl rfl rfl hl.1 rfl (Nat.le_of_ble_eq_true rfl) dX3_place_10 ⟨Nat.zero_le _, Nat.zero_le _⟩ hP hD hS (fun H locs hP hD hS => ?_)
    refine lv_goto (tgt := 17) hx hb dX3_place_13 (by decide) ?_
    cases hf
    exact vz_iret X hP hD hS dX3_place_17
end
theorem kX3_place {l : Launch} {D : va_G} {a n : Nat → Nat} {cA : Nat → ClassId} {K : Nat} {x1 : Int32} {u : MU} {r : Int32} {u2 : MU} (h : fX3_place n K x1 u = some (r, u2)) : vzC l D (MT cA) (MW a n cA) yX3_place wsX3_place rmX3_place [.ref (a 0), .int x1] u r u2 := vzC.of (by decide) rfl (Nat.le_of_ble_eq_true rfl) (fun p e s m below meth c A ls X hP hD hl => lbX3_place_e X x1 u s.heap [] ls r u2 h hP hD va_S.rf hl)
abbrev rmX3_tag : Room := { frames := 1, cells := 0, slots := 0, locals := 21 }
theorem in_X3_tag_X3 : ∀ w ∈ u_ws RX3 TX3 16, w ∈ wsX3_tag := fun _ h => List.mem_cons_of_mem _ (List.mem_append_right _ h)
def fX3_tag (n : Nat → Nat) (K : Nat) (x1 : Int32) (u : MU) : Option (Int32 × MU) := (fX3_isPlace n K x1 u).bind fun z1 => (if z1.1 = 0 then (some (zI (-1), z1.2)) else (vg x1 (n 1) (some ((mu_sec z1.2) x1.toNatClampNeg, z1.2))))
section
variable {p : Program} {l : Launch} {e : Env} {s : State} {m : MethodId} {args : Array Value} {below : List Frame} {meth : Method} {c : Code} {D : va_G} {a n : Nat → Nat} {cA : Nat → ClassId} {A : Nat → Prop}
set_option maxHeartbeats 4000000 in
set_option maxRecDepth 100000 in
theorem lbX3_tag_e {K : Nat} (X : vzX D (MT cA) A wsX3_tag cX3_tag 2 (some .int) RX3 p s m args meth c) : ∀ (x1 : Int32) (u : MU) (H : Heap) (locs : List Loc) (ls : Array Slot) (r : Int32) (u2 : MU), fX3_tag n K x1 u = some (r, u2) → va_P D vwCl (MW a n cA u) H → va_D A (MW a n cA u) → va_S A s.heap H locs → lv_has ls 2 [(0, .ref (a 0)), (1, .int x1)] → W p l e (headSpec wsX3_tag rmX3_tag).room s m args below meth c H locs 0 0 (MQ below (vzQ D (MT cA) (MW a n cA) A r u2) args s 0 0 A) (F0 m 0 ls []) := by
  obtain ⟨hx, hb, hr, hml, hown, hts, hlk, hN, hK, hA⟩ := id X
  intro x1 u H locs ls r u2 hf hP hD hS hl
  unfold fX3_tag at hf
  refine lv_aload_n hx hb dX3_tag_0 rfl (lv_at hl 0 rfl) ?_
  refine lv_iload_n hx hb dX3_tag_1 rfl (lv_at hl 1 rfl) ?_
  obtain ⟨z1, hz2, hf⟩ := bd hf
  refine vz_call (rest := []) X (kX3_isPlace hz2) (cwV 1 hts gX3_tag_X3_isPlace rfl rfl rfl (by decide +kernel) ⟨Nat.le_of_ble_eq_true rfl, Nat.le_of_ble_eq_true rfl⟩) 0 3 rfl rfl rfl hl.1 rfl (Nat.le_of_ble_eq_true rfl) dX3_tag_2 ⟨Nat.zero_le _, Nat.zero_le _⟩ hP hD hS (fun H locs hP hD hS => ?_)
  refine lv_if_eq (tgt := 17) hx hb dX3_tag_5 (by decide) (fun c3 => ?_) (fun c3 => ?_)
  · have hf := ift c3 hf
    refine lv_iconst (v := zI (-1)) hx hb dX3_tag_17 (by decide) ?_
    cases hf
    exact vz_iret X hP hD hS dX3_tag_18
  · have hf := iff_ c3 hf
    refine lv_aload_n hx hb dX3_tag_8 rfl (lv_at hl 0 rfl) ?_
    refine va_get (D := D) (ci := 3) (v := .ref (a 1)) (C := RX3) (T := TX3) (N := 16) hx hb hts in_X3_tag_X3 hown hK hP 0 rfl rfl 2 (by decide) (hts _ (List.mem_of_getElem? (i := 1) rfl)) (fun _ h9 => h9) rfl dX3_tag_9 ?_
    refine lv_iload_n hx hb dX3_tag_12 rfl (lv_at hl 1 rfl) ?_
    obtain ⟨g4, hf⟩ := vgs hf
    refine va_iald hx hb hK hP 1 0 rfl rfl g4 dX3_tag_13 ?_
    refine lv_goto (tgt := 18) hx hb dX3_tag_14 (by decide) ?_
    cases hf
    exact vz_iret X hP hD hS dX3_tag_18
end
theorem kX3_tag {l : Launch} {D : va_G} {a n : Nat → Nat} {cA : Nat → ClassId} {K : Nat} {x1 : Int32} {u : MU} {r : Int32} {u2 : MU} (h : fX3_tag n K x1 u = some (r, u2)) : vzC l D (MT cA) (MW a n cA) yX3_tag wsX3_tag rmX3_tag [.ref (a 0), .int x1] u r u2 := vzC.of (by decide) rfl (Nat.le_of_ble_eq_true rfl) (fun p e s m below meth c A ls X hP hD hl => lbX3_tag_e X x1 u s.heap [] ls r u2 h hP hD va_S.rf hl)
abbrev rmX3_serial : Room := { frames := 1, cells := 0, slots := 0, locals := 21 }
theorem in_X3_serial_X3 : ∀ w ∈ u_ws RX3 TX3 16, w ∈ wsX3_serial := fun _ h => List.mem_cons_of_mem _ (List.mem_append_right _ h)
def fX3_serial (n : Nat → Nat) (K : Nat) (x1 : Int32) (u : MU) : Option (Int32 × MU) := (fX3_isPlace n K x1 u).bind fun z1 => (if z1.1 = 0 then (some (zI (-1), z1.2)) else (vg x1 (n 1) (if ((mu_sec z1.2) x1.toNatClampNeg) = (zI (-1)) then (some (zI (-1), z1.2)) else (vg x1 (n 3) (some ((mu_ser z1.2) x1.toNatClampNeg, z1.2))))))
section
variable {p : Program} {l : Launch} {e : Env} {s : State} {m : MethodId} {args : Array Value} {below : List Frame} {meth : Method} {c : Code} {D : va_G} {a n : Nat → Nat} {cA : Nat → ClassId} {A : Nat → Prop}
set_option maxHeartbeats 4000000 in
set_option maxRecDepth 100000 in
theorem lbX3_serial_e {K : Nat} (X : vzX D (MT cA) A wsX3_serial cX3_serial 2 (some .int) RX3 p s m args meth c) : ∀ (x1 : Int32) (u : MU) (H : Heap) (locs : List Loc) (ls : Array Slot) (r : Int32) (u2 : MU), fX3_serial n K x1 u = some (r, u2) → va_P D vwCl (MW a n cA u) H → va_D A (MW a n cA u) → va_S A s.heap H locs → lv_has ls 2 [(0, .ref (a 0)), (1, .int x1)] → W p l e (headSpec wsX3_serial rmX3_serial).room s m args below meth c H locs 0 0 (MQ below (vzQ D (MT cA) (MW a n cA) A r u2) args s 0 0 A) (F0 m 0 ls []) := by
  obtain ⟨hx, hb, hr, hml, hown, hts, hlk, hN, hK, hA⟩ := id X
  intro x1 u H locs ls r u2 hf hP hD hS hl
  unfold fX3_serial at hf
  refine lv_aload_n hx hb dX3_serial_0 rfl (lv_at hl 0 rfl) ?_
  refine lv_iload_n hx hb dX3_serial_1 rfl (lv_at hl 1 rfl) ?_
  obtain ⟨z1, hz2, hf⟩ := bd hf
  refine vz_call (rest := []) X (kX3_isPlace hz2) (cwV 1 hts gX3_serial_X3_isPlace rfl rfl rfl (by decide +kernel) ⟨Nat.le_of_ble_eq_true rfl, Nat.le_of_ble_eq_true rfl⟩) 0 3 rfl rfl rfl hl.1 rfl (Nat.le_of_ble_eq_true rfl) dX3_serial_2 ⟨Nat.zero_le _, Nat.zero_le _⟩ hP hD hS (fun H locs hP hD hS => ?_)
  refine lv_if_eq (tgt := 27) hx hb dX3_serial_5 (by decide) (fun c3 => ?_) (fun c3 => ?_)
  · have hf := ift c3 hf
    refine lv_iconst (v := zI (-1)) hx hb dX3_serial_27 (by decide) ?_
    cases hf
    exact vz_iret X hP hD hS dX3_serial_28
  · have hf := iff_ c3 hf
    refine lv_aload_n hx hb dX3_serial_8 rfl (lv_at hl 0 rfl) ?_
    refine va_get (D := D) (ci := 3) (v := .ref (a 1)) (C := RX3) (T := TX3) (N := 16) hx hb hts in_X3_serial_X3 hown hK hP 0 rfl rfl 2 (by decide) (hts _ (List.mem_of_getElem? (i := 1) rfl)) (fun _ h9 => h9) rfl dX3_serial_9 ?_
    refine lv_iload_n hx hb dX3_serial_12 rfl (lv_at hl 1 rfl) ?_
    obtain ⟨g4, hf⟩ := vgs hf
    refine va_iald hx hb hK hP 1 0 rfl rfl g4 dX3_serial_13 ?_
    refine lv_iconst (v := zI (-1)) hx hb dX3_serial_14 (by decide) ?_
    refine lv_icmp_eq (tgt := 27) hx hb dX3_serial_15 (by decide) (fun c5 => ?_) (fun c5 => ?_)
    · have hf := ift c5 hf
      refine lv_iconst (v := zI (-1)) hx hb dX3_serial_27 (by decide) ?_
      cases hf
      exact vz_iret X hP hD hS dX3_serial_28
    · have hf := iff_ c5 hf
      refine lv_aload_n hx hb dX3_serial_18 rfl (lv_at hl 0 rfl) ?_
      refine va_get (D := D) (ci := 3) (v := .ref (a 3)) (C := RX3) (T := TX3) (N := 16) hx hb hts in_X3_serial_X3 hown hK hP 0 rfl rfl 4 (by decide) (hts _ (List.mem_of_getElem? (i := 2) rfl)) (fun _ h9 => h9) rfl dX3_serial_19 ?_
      refine lv_iload_n hx hb dX3_serial_22 rfl (lv_at hl 1 rfl) ?_
      obtain ⟨g6, hf⟩ := vgs hf
      refine va_iald hx hb hK hP 3 2 rfl rfl g6 dX3_serial_23 ?_
      refine lv_goto (tgt := 28) hx hb dX3_serial_24 (by decide) ?_
      cases hf
      exact vz_iret X hP hD hS dX3_serial_28
end
theorem kX3_serial {l : Launch} {D : va_G} {a n : Nat → Nat} {cA : Nat → ClassId} {K : Nat} {x1 : Int32} {u : MU} {r : Int32} {u2 : MU} (h : fX3_serial n K x1 u = some (r, u2)) : vzC l D (MT cA) (MW a n cA) yX3_serial wsX3_serial rmX3_serial [.ref (a 0), .int x1] u r u2 := vzC.of (by decide) rfl (Nat.le_of_ble_eq_true rfl) (fun p e s m below meth c A ls X hP hD hl => lbX3_serial_e X x1 u s.heap [] ls r u2 h hP hD va_S.rf hl)
abbrev rmX3_valid : Room := { frames := 3, cells := 0, slots := 0, locals := 67 }
theorem in_X3_valid_X3 : ∀ w ∈ u_ws RX3 TX3 16, w ∈ wsX3_valid := fun _ h => List.mem_cons_of_mem _ (List.mem_append_right _ h)
def fX3_valid (n : Nat → Nat) (K : Nat) (x1 : Int32) (u : MU) : Option (Int32 × MU) := (fX3_isBlock n K x1 u).bind fun z1 => (if z1.1 = 0 then (some (zI (-1), z1.2)) else ((fX3_validIn n K x1 z1.2).bind fun z4 => (some (z4.1, z4.2))))
section
variable {p : Program} {l : Launch} {e : Env} {s : State} {m : MethodId} {args : Array Value} {below : List Frame} {meth : Method} {c : Code} {D : va_G} {a n : Nat → Nat} {cA : Nat → ClassId} {A : Nat → Prop}
set_option maxHeartbeats 4000000 in
set_option maxRecDepth 100000 in
theorem lbX3_valid_e {K : Nat} (X : vzX D (MT cA) A wsX3_valid cX3_valid 2 (some .int) RX3 p s m args meth c) : ∀ (x1 : Int32) (u : MU) (H : Heap) (locs : List Loc) (ls : Array Slot) (r : Int32) (u2 : MU), fX3_valid n K x1 u = some (r, u2) → va_P D vwCl (MW a n cA u) H → va_D A (MW a n cA u) → va_S A s.heap H locs → lv_has ls 2 [(0, .ref (a 0)), (1, .int x1)] → W p l e (headSpec wsX3_valid rmX3_valid).room s m args below meth c H locs 0 0 (MQ below (vzQ D (MT cA) (MW a n cA) A r u2) args s 0 0 A) (F0 m 0 ls []) := by
  obtain ⟨hx, hb, hr, hml, hown, hts, hlk, hN, hK, hA⟩ := id X
  intro x1 u H locs ls r u2 hf hP hD hS hl
  unfold fX3_valid at hf
  refine lv_aload_n hx hb dX3_valid_0 rfl (lv_at hl 0 rfl) ?_
  refine lv_iload_n hx hb dX3_valid_1 rfl (lv_at hl 1 rfl) ?_
  obtain ⟨z1, hz2, hf⟩ := bd hf
  refine vz_call (rest := []) X (kX3_isBlock hz2) (cwV 1 hts gX3_valid_X3_isBlock rfl rfl rfl (by decide +kernel) ⟨Nat.le_of_ble_eq_true rfl, Nat.le_of_ble_eq_true rfl⟩) 0 3 rfl rfl rfl hl.1 rfl (Nat.le_of_ble_eq_true rfl) dX3_valid_2 ⟨Nat.zero_le _, Nat.zero_le _⟩ hP hD hS (fun H locs hP hD hS => ?_)
  refine lv_if_eq (tgt := 16) hx hb dX3_valid_5 (by decide) (fun c3 => ?_) (fun c3 => ?_)
  · have hf := ift c3 hf
    refine lv_iconst (v := zI (-1)) hx hb dX3_valid_16 (by decide) ?_
    cases hf
    exact vz_iret X hP hD hS dX3_valid_17
  · have hf := iff_ c3 hf
    refine lv_aload_n hx hb dX3_valid_8 rfl (lv_at hl 0 rfl) ?_
    refine lv_iload_n hx hb dX3_valid_9 rfl (lv_at hl 1 rfl) ?_
    obtain ⟨z4, hz5, hf⟩ := bd hf
    refine vz_call (rest := []) X (kX3_validIn hz5) (cwV 1 hts gX3_valid_X3_validIn rfl rfl rfl (by decide +kernel) ⟨Nat.le_of_ble_eq_true rfl, Nat.le_of_ble_eq_true rfl⟩) 0 3 rfl rfl rfl hl.1 rfl (Nat.le_of_ble_eq_true rfl) dX3_valid_10 ⟨Nat.zero_le _, Nat.zero_le _⟩ hP hD hS (fun H locs hP hD hS => ?_)
    refine lv_goto (tgt := 17) hx hb dX3_valid_13 (by decide) ?_
    cases hf
    exact vz_iret X hP hD hS dX3_valid_17
end
theorem kX3_valid {l : Launch} {D : va_G} {a n : Nat → Nat} {cA : Nat → ClassId} {K : Nat} {x1 : Int32} {u : MU} {r : Int32} {u2 : MU} (h : fX3_valid n K x1 u = some (r, u2)) : vzC l D (MT cA) (MW a n cA) yX3_valid wsX3_valid rmX3_valid [.ref (a 0), .int x1] u r u2 := vzC.of (by decide) rfl (Nat.le_of_ble_eq_true rfl) (fun p e s m below meth c A ls X hP hD hl => lbX3_valid_e X x1 u s.heap [] ls r u2 h hP hD va_S.rf hl)
abbrev rmX3_erasures : Room := { frames := 1, cells := 0, slots := 0, locals := 21 }
theorem in_X3_erasures_X3 : ∀ w ∈ u_ws RX3 TX3 16, w ∈ wsX3_erasures := fun _ h => List.mem_cons_of_mem _ (List.mem_append_right _ h)
def fX3_erasures (n : Nat → Nat) (K : Nat) (x1 : Int32) (u : MU) : Option (Int32 × MU) := (fX3_isBlock n K x1 u).bind fun z1 => (if z1.1 = 0 then (some (zI (-1), z1.2)) else (vg x1 (n 5) (some ((mu_era z1.2) x1.toNatClampNeg, z1.2))))
section
variable {p : Program} {l : Launch} {e : Env} {s : State} {m : MethodId} {args : Array Value} {below : List Frame} {meth : Method} {c : Code} {D : va_G} {a n : Nat → Nat} {cA : Nat → ClassId} {A : Nat → Prop}
set_option maxHeartbeats 4000000 in
set_option maxRecDepth 100000 in
theorem lbX3_erasures_e {K : Nat} (X : vzX D (MT cA) A wsX3_erasures cX3_erasures 2 (some .int) RX3 p s m args meth c) : ∀ (x1 : Int32) (u : MU) (H : Heap) (locs : List Loc) (ls : Array Slot) (r : Int32) (u2 : MU), fX3_erasures n K x1 u = some (r, u2) → va_P D vwCl (MW a n cA u) H → va_D A (MW a n cA u) → va_S A s.heap H locs → lv_has ls 2 [(0, .ref (a 0)), (1, .int x1)] → W p l e (headSpec wsX3_erasures rmX3_erasures).room s m args below meth c H locs 0 0 (MQ below (vzQ D (MT cA) (MW a n cA) A r u2) args s 0 0 A) (F0 m 0 ls []) := by
  obtain ⟨hx, hb, hr, hml, hown, hts, hlk, hN, hK, hA⟩ := id X
  intro x1 u H locs ls r u2 hf hP hD hS hl
  unfold fX3_erasures at hf
  refine lv_aload_n hx hb dX3_erasures_0 rfl (lv_at hl 0 rfl) ?_
  refine lv_iload_n hx hb dX3_erasures_1 rfl (lv_at hl 1 rfl) ?_
  obtain ⟨z1, hz2, hf⟩ := bd hf
  refine vz_call (rest := []) X (kX3_isBlock hz2) (cwV 1 hts gX3_erasures_X3_isBlock rfl rfl rfl (by decide +kernel) ⟨Nat.le_of_ble_eq_true rfl, Nat.le_of_ble_eq_true rfl⟩) 0 3 rfl rfl rfl hl.1 rfl (Nat.le_of_ble_eq_true rfl) dX3_erasures_2 ⟨Nat.zero_le _, Nat.zero_le _⟩ hP hD hS (fun H locs hP hD hS => ?_)
  refine lv_if_eq (tgt := 17) hx hb dX3_erasures_5 (by decide) (fun c3 => ?_) (fun c3 => ?_)
  · have hf := ift c3 hf
    refine lv_iconst (v := zI (-1)) hx hb dX3_erasures_17 (by decide) ?_
    cases hf
    exact vz_iret X hP hD hS dX3_erasures_18
  · have hf := iff_ c3 hf
    refine lv_aload_n hx hb dX3_erasures_8 rfl (lv_at hl 0 rfl) ?_
    refine va_get (D := D) (ci := 3) (v := .ref (a 5)) (C := RX3) (T := TX3) (N := 16) hx hb hts in_X3_erasures_X3 hown hK hP 0 rfl rfl 6 (by decide) (hts _ (List.mem_of_getElem? (i := 1) rfl)) (fun _ h9 => h9) rfl dX3_erasures_9 ?_
    refine lv_iload_n hx hb dX3_erasures_12 rfl (lv_at hl 1 rfl) ?_
    obtain ⟨g4, hf⟩ := vgs hf
    refine va_iald hx hb hK hP 5 4 rfl rfl g4 dX3_erasures_13 ?_
    refine lv_goto (tgt := 18) hx hb dX3_erasures_14 (by decide) ?_
    cases hf
    exact vz_iret X hP hD hS dX3_erasures_18
end
theorem kX3_erasures {l : Launch} {D : va_G} {a n : Nat → Nat} {cA : Nat → ClassId} {K : Nat} {x1 : Int32} {u : MU} {r : Int32} {u2 : MU} (h : fX3_erasures n K x1 u = some (r, u2)) : vzC l D (MT cA) (MW a n cA) yX3_erasures wsX3_erasures rmX3_erasures [.ref (a 0), .int x1] u r u2 := vzC.of (by decide) rfl (Nat.le_of_ble_eq_true rfl) (fun p e s m below meth c A ls X hP hD hl => lbX3_erasures_e X x1 u s.heap [] ls r u2 h hP hD va_S.rf hl)
