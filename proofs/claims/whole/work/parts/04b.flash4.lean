abbrev rmX1_greatestSerial : Room := { frames := 1, cells := 0, slots := 0, locals := 13 }
theorem in_X1_greatestSerial_X1 : ∀ w ∈ u_ws RX1 TX1 11, w ∈ wsX1_greatestSerial := fun _ h => List.mem_cons_of_mem _ (List.mem_append_right _ h)
def fX1_greatestSerial_4 (n : Nat → Nat) (K : Nat) : Nat → Int32 → Int32 → XU → Option (Int32 × XU)
  | 0, _, _, _ => none
  | N + 1, x1, x2, u => if (nI (n 6)) ≤ x2 then (some (x1, u)) else (vg x2 (n 5) (if ((xu_kin u) x2.toNatClampNeg) = 0 then (fX1_greatestSerial_4 n K N x1 (x2 + (zI 1)) u) else (vg x2 (n 6) (fX1_greatestSerial_4 n K N (if x1 < ((xu_ser u) x2.toNatClampNeg) then (xu_ser u) x2.toNatClampNeg else x1) (x2 + (zI 1)) u))))
def fX1_greatestSerial (n : Nat → Nat) (K : Nat) (u : XU) : Option (Int32 × XU) := fX1_greatestSerial_4 n K K (zI (-1)) (zI 0) u
section
variable {p : Program} {l : Launch} {e : Env} {s : State} {m : MethodId} {args : Array Value} {below : List Frame} {meth : Method} {c : Code} {D : va_G} {a n : Nat → Nat} {cA : Nat → ClassId} {A : Nat → Prop}
set_option maxHeartbeats 4000000 in
set_option maxRecDepth 100000 in
theorem lbX1_greatestSerial_4 {K : Nat} (X : vzX D (XT cA) A wsX1_greatestSerial cX1_greatestSerial 3 (some .int) RX1 p s m args meth c) : ∀ (N : Nat) (x1 x2 : Int32) (u : XU) (H : Heap) (locs : List Loc) (ls : Array Slot) (r : Int32) (u2 : XU), fX1_greatestSerial_4 n K N x1 x2 u = some (r, u2) → va_P D vwCl (XW a n cA u) H → va_D A (XW a n cA u) → va_S A s.heap H locs → lv_has ls 3 [(0, .ref (a 1)), (1, .int x1), (2, .int x2)] → W p l e (headSpec wsX1_greatestSerial rmX1_greatestSerial).room s m args below meth c H locs 0 0 (MQ below (vzQ D (XT cA) (XW a n cA) A r u2) args s 0 0 A) (F0 m 4 ls []) := by
  obtain ⟨hx, hb, hr, hml, hown, hts, hlk, hN, hK, hA⟩ := id X
  intro N
  induction N with
  | zero =>
    intro x1 x2 u H locs ls r u2 hf
    cases hf
  | succ N ih =>
    intro x1 x2 u H locs ls r u2 hf hP hD hS hl
    rw [fX1_greatestSerial_4] at hf
    refine lv_iload_n hx hb dX1_greatestSerial_4 rfl (lv_at hl 2 rfl) ?_
    refine lv_aload_n hx hb dX1_greatestSerial_5 rfl (lv_at hl 0 rfl) ?_
    refine va_get (D := D) (ci := 1) (v := .ref (a 6)) (C := RX1) (T := TX1) (N := 11) hx hb hts in_X1_greatestSerial_X1 hown hK hP 1 rfl rfl 4 (by decide) (hts _ (List.mem_of_getElem? (i := 1) rfl)) (fun _ h9 => h9) rfl dX1_greatestSerial_6 ?_
    refine va_alen (v := nI (n 6)) (ty := .int) hx hb hK hP 6 3 rfl rfl rfl dX1_greatestSerial_9 ?_
    refine lv_icmp_ge (tgt := 39) hx hb dX1_greatestSerial_10 (by decide) (fun c1 => ?_) (fun c1 => ?_)
    · have hf := ift c1 hf
      refine lv_iload_n hx hb dX1_greatestSerial_39 rfl (lv_at hl 1 rfl) ?_
      cases hf
      exact vz_iret X hP hD hS dX1_greatestSerial_40
    · have hf := iff_ c1 hf
      refine lv_aload_n hx hb dX1_greatestSerial_13 rfl (lv_at hl 0 rfl) ?_
      refine va_get (D := D) (ci := 1) (v := .ref (a 5)) (C := RX1) (T := TX1) (N := 11) hx hb hts in_X1_greatestSerial_X1 hown hK hP 1 rfl rfl 3 (by decide) (hts _ (List.mem_of_getElem? (i := 2) rfl)) (fun _ h9 => h9) rfl dX1_greatestSerial_14 ?_
      refine lv_iload_n hx hb dX1_greatestSerial_17 rfl (lv_at hl 2 rfl) ?_
      obtain ⟨g2, hf⟩ := vgs hf
      refine va_iald hx hb hK hP 5 2 rfl rfl g2 dX1_greatestSerial_18 ?_
      refine lv_if_eq (tgt := 33) hx hb dX1_greatestSerial_19 (by decide) (fun c3 => ?_) (fun c3 => ?_)
      · have hf := ift c3 hf
        refine lv_iinc (v := x2 + (zI 1)) (lv' := [(2, .int (x2 + (zI 1))), (0, .ref (a 1)), (1, .int x1)]) hx hb dX1_greatestSerial_33 hl (k := 2) rfl rfl (by decide) rfl (fun ls hl => ?_)
        refine lv_goto (tgt := 4) hx hb dX1_greatestSerial_36 (by decide) ?_
        exact ih x1 (x2 + (zI 1)) u _ _ _ _ _ hf hP hD hS (lv_sub hl [1, 2, 0] rfl)
      · have hf := iff_ c3 hf
        refine lv_iload_n hx hb dX1_greatestSerial_22 rfl (lv_at hl 1 rfl) ?_
        refine lv_aload_n hx hb dX1_greatestSerial_23 rfl (lv_at hl 0 rfl) ?_
        refine va_get (D := D) (ci := 1) (v := .ref (a 6)) (C := RX1) (T := TX1) (N := 11) hx hb hts in_X1_greatestSerial_X1 hown hK hP 1 rfl rfl 4 (by decide) (hts _ (List.mem_of_getElem? (i := 1) rfl)) (fun _ h9 => h9) rfl dX1_greatestSerial_24 ?_
        refine lv_iload_n hx hb dX1_greatestSerial_27 rfl (lv_at hl 2 rfl) ?_
        obtain ⟨g4, hf⟩ := vgs hf
        refine va_iald hx hb hK hP 6 3 rfl rfl g4 dX1_greatestSerial_28 ?_
        refine va_mmax hx hb (hml.trans hl.1.symm) hown (hts _ (List.mem_of_getElem? (i := 3) rfl)) (hts _ (List.mem_of_getElem? (i := 4) rfl)) (hts _ (List.mem_of_getElem? (i := 5) rfl)) (hts _ (List.mem_of_getElem? (i := 6) rfl)) (Nat.le_of_ble_eq_true rfl) (Nat.le_of_ble_eq_true rfl) (Nat.zero_le _) (Nat.zero_le _) dX1_greatestSerial_29 ?_
        refine lv_istore_n (lv' := [(1, .int (if x1 < ((xu_ser u) x2.toNatClampNeg) then (xu_ser u) x2.toNatClampNeg else x1)), (0, .ref (a 1)), (2, .int x2)]) hx hb dX1_greatestSerial_32 rfl hl (by decide) rfl (fun ls hl => ?_)
        refine lv_iinc (v := x2 + (zI 1)) (lv' := [(2, .int (x2 + (zI 1))), (1, .int (if x1 < ((xu_ser u) x2.toNatClampNeg) then (xu_ser u) x2.toNatClampNeg else x1)), (0, .ref (a 1))]) hx hb dX1_greatestSerial_33 hl (k := 2) rfl rfl (by decide) rfl (fun ls hl => ?_)
        refine lv_goto (tgt := 4) hx hb dX1_greatestSerial_36 (by decide) ?_
        exact ih (if x1 < ((xu_ser u) x2.toNatClampNeg) then (xu_ser u) x2.toNatClampNeg else x1) (x2 + (zI 1)) u _ _ _ _ _ hf hP hD hS (lv_sub hl [2, 1, 0] rfl)
set_option maxHeartbeats 4000000 in
set_option maxRecDepth 100000 in
theorem lbX1_greatestSerial_e {K : Nat} (X : vzX D (XT cA) A wsX1_greatestSerial cX1_greatestSerial 3 (some .int) RX1 p s m args meth c) : ∀ (u : XU) (H : Heap) (locs : List Loc) (ls : Array Slot) (r : Int32) (u2 : XU), fX1_greatestSerial n K u = some (r, u2) → va_P D vwCl (XW a n cA u) H → va_D A (XW a n cA u) → va_S A s.heap H locs → lv_has ls 3 [(0, .ref (a 1))] → W p l e (headSpec wsX1_greatestSerial rmX1_greatestSerial).room s m args below meth c H locs 0 0 (MQ below (vzQ D (XT cA) (XW a n cA) A r u2) args s 0 0 A) (F0 m 0 ls []) := by
  obtain ⟨hx, hb, hr, hml, hown, hts, hlk, hN, hK, hA⟩ := id X
  intro u H locs ls r u2 hf hP hD hS hl
  unfold fX1_greatestSerial at hf
  refine lv_iconst (v := zI (-1)) hx hb dX1_greatestSerial_0 (by decide) ?_
  refine lv_istore_n (lv' := [(1, .int (zI (-1))), (0, .ref (a 1))]) hx hb dX1_greatestSerial_1 rfl hl (by decide) rfl (fun ls hl => ?_)
  refine lv_iconst (v := zI 0) hx hb dX1_greatestSerial_2 (by decide) ?_
  refine lv_istore_n (lv' := [(2, .int (zI 0)), (1, .int (zI (-1))), (0, .ref (a 1))]) hx hb dX1_greatestSerial_3 rfl hl (by decide) rfl (fun ls hl => ?_)
  exact lbX1_greatestSerial_4 X K (zI (-1)) (zI 0) u _ _ _ _ _ hf hP hD hS (lv_sub hl [2, 1, 0] rfl)
end
theorem kX1_greatestSerial {l : Launch} {D : va_G} {a n : Nat → Nat} {cA : Nat → ClassId} {K : Nat} {u : XU} {r : Int32} {u2 : XU} (h : fX1_greatestSerial n K u = some (r, u2)) : vzC l D (XT cA) (XW a n cA) yX1_greatestSerial wsX1_greatestSerial rmX1_greatestSerial [.ref (a 1)] u r u2 := vzC.of (by decide) rfl (Nat.le_of_ble_eq_true rfl) (fun p e s m below meth c A ls X hP hD hl => lbX1_greatestSerial_e X u s.heap [] ls r u2 h hP hD va_S.rf hl)
abbrev rmX1_beginOperation : Room := { frames := 0, cells := 0, slots := 0, locals := 0 }
theorem in_X1_beginOperation_X1 : ∀ w ∈ u_ws RX1 TX1 11, w ∈ wsX1_beginOperation := fun _ h => List.mem_cons_of_mem _ (List.mem_append_right _ h)
def fX1_beginOperation (n : Nat → Nat) (K : Nat) (u : XU) : Option (Int32 × XU) := if (xu_fus u) = (zI 1) then (if (xu_fus u) ≤ 0 then (some (zI 0, u)) else (some (zI 0, xu_s_fus u ((xu_fus u) - (zI 1))))) else (if (xu_fus u) ≤ 0 then (some (zI 1, xu_s_ops u ((xu_ops u) + (zI 1)))) else (some (zI 1, xu_s_ops (xu_s_fus u ((xu_fus u) - (zI 1))) ((xu_ops u) + (zI 1)))))
section
variable {p : Program} {l : Launch} {e : Env} {s : State} {m : MethodId} {args : Array Value} {below : List Frame} {meth : Method} {c : Code} {D : va_G} {a n : Nat → Nat} {cA : Nat → ClassId} {A : Nat → Prop}
set_option maxHeartbeats 4000000 in
set_option maxRecDepth 100000 in
theorem lbX1_beginOperation_e {K : Nat} (X : vzX D (XT cA) A wsX1_beginOperation cX1_beginOperation 2 (some .boolean) RX1 p s m args meth c) : ∀ (u : XU) (H : Heap) (locs : List Loc) (ls : Array Slot) (r : Int32) (u2 : XU), fX1_beginOperation n K u = some (r, u2) → va_P D vwCl (XW a n cA u) H → va_D A (XW a n cA u) → va_S A s.heap H locs → lv_has ls 2 [(0, .ref (a 1))] → W p l e (headSpec wsX1_beginOperation rmX1_beginOperation).room s m args below meth c H locs 0 0 (MQ below (vzQ D (XT cA) (XW a n cA) A r u2) args s 0 0 A) (F0 m 0 ls []) := by
  obtain ⟨hx, hb, hr, hml, hown, hts, hlk, hN, hK, hA⟩ := id X
  intro u H locs ls r u2 hf hP hD hS hl
  unfold fX1_beginOperation at hf
  refine lv_aload_n hx hb dX1_beginOperation_0 rfl (lv_at hl 0 rfl) ?_
  refine va_get (D := D) (ci := 1) (v := .int (xu_fus u)) (C := RX1) (T := TX1) (N := 11) hx hb hts in_X1_beginOperation_X1 hown hK hP 1 rfl rfl 10 (by decide) (hts _ (List.mem_of_getElem? (i := 1) rfl)) (fun _ h9 => h9) rfl dX1_beginOperation_1 ?_
  refine lv_iconst (v := zI 1) hx hb dX1_beginOperation_4 (by decide) ?_
  refine lv_icmp_ne (tgt := 12) hx hb dX1_beginOperation_5 (by decide) (fun c1 => ?_) (fun c1 => ?_)
  · have hf := iff_ c1 hf
    refine lv_iconst (v := zI 0) hx hb dX1_beginOperation_12 (by decide) ?_
    refine lv_istore_n (lv' := [(1, .int (zI 0)), (0, .ref (a 1))]) hx hb dX1_beginOperation_13 rfl hl (by decide) rfl (fun ls hl => ?_)
    refine lv_aload_n hx hb dX1_beginOperation_14 rfl (lv_at hl 1 rfl) ?_
    refine va_get (D := D) (ci := 1) (v := .int (xu_fus u)) (C := RX1) (T := TX1) (N := 11) hx hb hts in_X1_beginOperation_X1 hown hK hP 1 rfl rfl 10 (by decide) (hts _ (List.mem_of_getElem? (i := 1) rfl)) (fun _ h9 => h9) rfl dX1_beginOperation_15 ?_
    refine lv_if_le (tgt := 31) hx hb dX1_beginOperation_18 (by decide) (fun c2 => ?_) (fun c2 => ?_)
    · have hf := ift c2 hf
      refine lv_iload_n hx hb dX1_beginOperation_31 rfl (lv_at hl 0 rfl) ?_
      refine lv_if_ne (tgt := 45) hx hb dX1_beginOperation_32 (by decide) (fun c3 => absurd (by decide) c3) (fun c3 => ?_)
      refine lv_aload_n hx hb dX1_beginOperation_35 rfl (lv_at hl 1 rfl) ?_
      refine lv_dup hx hb dX1_beginOperation_36 rfl ?_
      refine va_get (D := D) (ci := 1) (v := .int (xu_ops u)) (C := RX1) (T := TX1) (N := 11) hx hb hts in_X1_beginOperation_X1 hown hK hP 1 rfl rfl 9 (by decide) (hts _ (List.mem_of_getElem? (i := 2) rfl)) (fun _ h9 => h9) rfl dX1_beginOperation_37 ?_
      refine lv_iconst (v := zI 1) hx hb dX1_beginOperation_40 (by decide) ?_
      refine lv_iadd hx hb dX1_beginOperation_41 ?_
      refine va_put (D := D) (ci := 1) (v := .int ((xu_ops u) + (zI 1))) (ty := .int) (C := RX1) (T := TX1) (N := 11) hx hb hts in_X1_beginOperation_X1 tyX1 tyX1_ok nmX1 hown hK hP hD hS 1 rfl rfl 9 (by decide) (hts _ (List.mem_of_getElem? (i := 2) rfl)) (fun _ h9 => h9) rfl (by decide +kernel) rfl rfl (Nat.le_of_ble_eq_true rfl) dX1_beginOperation_42 (fun H locs hP hD hS => ?_)
      have hP : va_P D vwCl (XW a n cA (xu_s_ops u ((xu_ops u) + (zI 1)))) H := hP
      have hD : va_D A (XW a n cA (xu_s_ops u ((xu_ops u) + (zI 1)))) := hD
      refine lv_iload_n hx hb dX1_beginOperation_45 rfl (lv_at hl 0 rfl) ?_
      refine lv_if_ne (tgt := 53) hx hb dX1_beginOperation_46 (by decide) (fun c4 => absurd (by decide) c4) (fun c4 => ?_)
      refine lv_iconst (v := zI 1) hx hb dX1_beginOperation_49 (by decide) ?_
      refine lv_goto (tgt := 54) hx hb dX1_beginOperation_50 (by decide) ?_
      cases hf
      exact vz_zret X rfl hP hD hS dX1_beginOperation_54
    · have hf := iff_ c2 hf
      refine lv_aload_n hx hb dX1_beginOperation_21 rfl (lv_at hl 1 rfl) ?_
      refine lv_dup hx hb dX1_beginOperation_22 rfl ?_
      refine va_get (D := D) (ci := 1) (v := .int (xu_fus u)) (C := RX1) (T := TX1) (N := 11) hx hb hts in_X1_beginOperation_X1 hown hK hP 1 rfl rfl 10 (by decide) (hts _ (List.mem_of_getElem? (i := 1) rfl)) (fun _ h9 => h9) rfl dX1_beginOperation_23 ?_
      refine lv_iconst (v := zI 1) hx hb dX1_beginOperation_26 (by decide) ?_
      refine lv_isub hx hb dX1_beginOperation_27 ?_
      refine va_put (D := D) (ci := 1) (v := .int ((xu_fus u) - (zI 1))) (ty := .int) (C := RX1) (T := TX1) (N := 11) hx hb hts in_X1_beginOperation_X1 tyX1 tyX1_ok nmX1 hown hK hP hD hS 1 rfl rfl 10 (by decide) (hts _ (List.mem_of_getElem? (i := 1) rfl)) (fun _ h9 => h9) rfl (by decide +kernel) rfl rfl (Nat.le_of_ble_eq_true rfl) dX1_beginOperation_28 (fun H locs hP hD hS => ?_)
      have hP : va_P D vwCl (XW a n cA (xu_s_fus u ((xu_fus u) - (zI 1)))) H := hP
      have hD : va_D A (XW a n cA (xu_s_fus u ((xu_fus u) - (zI 1)))) := hD
      refine lv_iload_n hx hb dX1_beginOperation_31 rfl (lv_at hl 0 rfl) ?_
      refine lv_if_ne (tgt := 45) hx hb dX1_beginOperation_32 (by decide) (fun c5 => absurd (by decide) c5) (fun c5 => ?_)
      refine lv_aload_n hx hb dX1_beginOperation_35 rfl (lv_at hl 1 rfl) ?_
      refine lv_dup hx hb dX1_beginOperation_36 rfl ?_
      refine va_get (D := D) (ci := 1) (v := .int (xu_ops u)) (C := RX1) (T := TX1) (N := 11) hx hb hts in_X1_beginOperation_X1 hown hK hP 1 rfl rfl 9 (by decide) (hts _ (List.mem_of_getElem? (i := 2) rfl)) (fun _ h9 => h9) rfl dX1_beginOperation_37 ?_
      refine lv_iconst (v := zI 1) hx hb dX1_beginOperation_40 (by decide) ?_
      refine lv_iadd hx hb dX1_beginOperation_41 ?_
      refine va_put (D := D) (ci := 1) (v := .int ((xu_ops u) + (zI 1))) (ty := .int) (C := RX1) (T := TX1) (N := 11) hx hb hts in_X1_beginOperation_X1 tyX1 tyX1_ok nmX1 hown hK hP hD hS 1 rfl rfl 9 (by decide) (hts _ (List.mem_of_getElem? (i := 2) rfl)) (fun _ h9 => h9) rfl (by decide +kernel) rfl rfl (Nat.le_of_ble_eq_true rfl) dX1_beginOperation_42 (fun H locs hP hD hS => ?_)
      have hP : va_P D vwCl (XW a n cA (xu_s_ops (xu_s_fus u ((xu_fus u) - (zI 1))) ((xu_ops u) + (zI 1)))) H := hP
      have hD : va_D A (XW a n cA (xu_s_ops (xu_s_fus u ((xu_fus u) - (zI 1))) ((xu_ops u) + (zI 1)))) := hD
      refine lv_iload_n hx hb dX1_beginOperation_45 rfl (lv_at hl 0 rfl) ?_
      refine lv_if_ne (tgt := 53) hx hb dX1_beginOperation_46 (by decide) (fun c6 => absurd (by decide) c6) (fun c6 => ?_)
      refine lv_iconst (v := zI 1) hx hb dX1_beginOperation_49 (by decide) ?_
      refine lv_goto (tgt := 54) hx hb dX1_beginOperation_50 (by decide) ?_
      cases hf
      exact vz_zret X rfl hP hD hS dX1_beginOperation_54
  · have hf := ift c1 hf
    refine lv_iconst (v := zI 1) hx hb dX1_beginOperation_8 (by decide) ?_
    refine lv_goto (tgt := 13) hx hb dX1_beginOperation_9 (by decide) ?_
    refine lv_istore_n (lv' := [(1, .int (zI 1)), (0, .ref (a 1))]) hx hb dX1_beginOperation_13 rfl hl (by decide) rfl (fun ls hl => ?_)
    refine lv_aload_n hx hb dX1_beginOperation_14 rfl (lv_at hl 1 rfl) ?_
    refine va_get (D := D) (ci := 1) (v := .int (xu_fus u)) (C := RX1) (T := TX1) (N := 11) hx hb hts in_X1_beginOperation_X1 hown hK hP 1 rfl rfl 10 (by decide) (hts _ (List.mem_of_getElem? (i := 1) rfl)) (fun _ h9 => h9) rfl dX1_beginOperation_15 ?_
    refine lv_if_le (tgt := 31) hx hb dX1_beginOperation_18 (by decide) (fun c7 => ?_) (fun c7 => ?_)
    · have hf := ift c7 hf
      refine lv_iload_n hx hb dX1_beginOperation_31 rfl (lv_at hl 0 rfl) ?_
      refine lv_if_ne (tgt := 45) hx hb dX1_beginOperation_32 (by decide) (fun c8 => ?_) (fun c8 => absurd c8 (by decide))
      refine lv_iload_n hx hb dX1_beginOperation_45 rfl (lv_at hl 0 rfl) ?_
      refine lv_if_ne (tgt := 53) hx hb dX1_beginOperation_46 (by decide) (fun c9 => ?_) (fun c9 => absurd c9 (by decide))
      refine lv_iconst (v := zI 0) hx hb dX1_beginOperation_53 (by decide) ?_
      cases hf
      exact vz_zret X rfl hP hD hS dX1_beginOperation_54
    · have hf := iff_ c7 hf
      refine lv_aload_n hx hb dX1_beginOperation_21 rfl (lv_at hl 1 rfl) ?_
      refine lv_dup hx hb dX1_beginOperation_22 rfl ?_
      refine va_get (D := D) (ci := 1) (v := .int (xu_fus u)) (C := RX1) (T := TX1) (N := 11) hx hb hts in_X1_beginOperation_X1 hown hK hP 1 rfl rfl 10 (by decide) (hts _ (List.mem_of_getElem? (i := 1) rfl)) (fun _ h9 => h9) rfl dX1_beginOperation_23 ?_
      refine lv_iconst (v := zI 1) hx hb dX1_beginOperation_26 (by decide) ?_
      refine lv_isub hx hb dX1_beginOperation_27 ?_
      refine va_put (D := D) (ci := 1) (v := .int ((xu_fus u) - (zI 1))) (ty := .int) (C := RX1) (T := TX1) (N := 11) hx hb hts in_X1_beginOperation_X1 tyX1 tyX1_ok nmX1 hown hK hP hD hS 1 rfl rfl 10 (by decide) (hts _ (List.mem_of_getElem? (i := 1) rfl)) (fun _ h9 => h9) rfl (by decide +kernel) rfl rfl (Nat.le_of_ble_eq_true rfl) dX1_beginOperation_28 (fun H locs hP hD hS => ?_)
      have hP : va_P D vwCl (XW a n cA (xu_s_fus u ((xu_fus u) - (zI 1)))) H := hP
      have hD : va_D A (XW a n cA (xu_s_fus u ((xu_fus u) - (zI 1)))) := hD
      refine lv_iload_n hx hb dX1_beginOperation_31 rfl (lv_at hl 0 rfl) ?_
      refine lv_if_ne (tgt := 45) hx hb dX1_beginOperation_32 (by decide) (fun c10 => ?_) (fun c10 => absurd c10 (by decide))
      refine lv_iload_n hx hb dX1_beginOperation_45 rfl (lv_at hl 0 rfl) ?_
      refine lv_if_ne (tgt := 53) hx hb dX1_beginOperation_46 (by decide) (fun c11 => ?_) (fun c11 => absurd c11 (by decide))
      refine lv_iconst (v := zI 0) hx hb dX1_beginOperation_53 (by decide) ?_
      cases hf
      exact vz_zret X rfl hP hD hS dX1_beginOperation_54
end
theorem kX1_beginOperation {l : Launch} {D : va_G} {a n : Nat → Nat} {cA : Nat → ClassId} {K : Nat} {u : XU} {r : Int32} {u2 : XU} (h : fX1_beginOperation n K u = some (r, u2)) : vzC l D (XT cA) (XW a n cA) yX1_beginOperation wsX1_beginOperation rmX1_beginOperation [.ref (a 1)] u r u2 := vzC.of (by decide) rfl (Nat.le_of_ble_eq_true rfl) (fun p e s m below meth c A ls X hP hD hl => lbX1_beginOperation_e X u s.heap [] ls r u2 h hP hD va_S.rf hl)
abbrev rmX1_program : Room := { frames := 1, cells := 0, slots := 0, locals := 21 }
theorem in_X1_program_X1 : ∀ w ∈ u_ws RX1 TX1 11, w ∈ wsX1_program := fun _ h => List.mem_cons_of_mem _ (List.mem_append_right _ h)
def fX1_program (n : Nat → Nat) (K : Nat) (x1 x2 x3 x4 : Int32) (u : XU) : Option (Int32 × XU) := (fX1_hasRoom n K x1 u).bind fun z1 => (if z1.1 = 0 then (some (zI 0, z1.2)) else ((fX1_beginOperation n K z1.2).bind fun z4 => (if z4.1 = 0 then (some (zI 0, z4.2)) else (vg x1 (n 7) (vg x1 (n 7) (vg x1 (n 7) (vg ((x1 * (zI 4)) + ((xu_prg z4.2) x1.toNatClampNeg)) (n 3) (vg ((x1 * (zI 4)) + ((xu_prg z4.2) x1.toNatClampNeg)) (n 4) (vg ((x1 * (zI 4)) + ((xu_prg z4.2) x1.toNatClampNeg)) (n 5) (vg ((x1 * (zI 4)) + ((xu_prg z4.2) x1.toNatClampNeg)) (n 6) (vg x2 (n 9) (some (zI 1, xu_s_new (xu_s_nxt (xu_s_ser (xu_s_kin (xu_s_val (xu_s_own (xu_s_prg z4.2 (upd (xu_prg z4.2) (x1).toNatClampNeg (((xu_prg z4.2) x1.toNatClampNeg) + (zI 1)))) (upd (xu_own z4.2) (((x1 * (zI 4)) + ((xu_prg z4.2) x1.toNatClampNeg))).toNatClampNeg x2)) (upd (xu_val z4.2) (((x1 * (zI 4)) + ((xu_prg z4.2) x1.toNatClampNeg))).toNatClampNeg x3)) (upd (xu_kin z4.2) (((x1 * (zI 4)) + ((xu_prg z4.2) x1.toNatClampNeg))).toNatClampNeg x4)) (upd (xu_ser z4.2) (((x1 * (zI 4)) + ((xu_prg z4.2) x1.toNatClampNeg))).toNatClampNeg (xu_nxt z4.2))) ((xu_nxt z4.2) + (zI 1))) (upd (xu_new z4.2) (x2).toNatClampNeg ((x1 * (zI 4)) + ((xu_prg z4.2) x1.toNatClampNeg))))))))))))))))
section
variable {p : Program} {l : Launch} {e : Env} {s : State} {m : MethodId} {args : Array Value} {below : List Frame} {meth : Method} {c : Code} {D : va_G} {a n : Nat → Nat} {cA : Nat → ClassId} {A : Nat → Prop}
set_option maxHeartbeats 4000000 in
set_option maxRecDepth 100000 in
theorem lbX1_program_e {K : Nat} (X : vzX D (XT cA) A wsX1_program cX1_program 6 (some .boolean) RX1 p s m args meth c) : ∀ (x1 x2 x3 x4 : Int32) (u : XU) (H : Heap) (locs : List Loc) (ls : Array Slot) (r : Int32) (u2 : XU), fX1_program n K x1 x2 x3 x4 u = some (r, u2) → va_P D vwCl (XW a n cA u) H → va_D A (XW a n cA u) → va_S A s.heap H locs → lv_has ls 6 [(0, .ref (a 1)), (1, .int x1), (2, .int x2), (3, .int x3), (4, .int x4)] → W p l e (headSpec wsX1_program rmX1_program).room s m args below meth c H locs 0 0 (MQ below (vzQ D (XT cA) (XW a n cA) A r u2) args s 0 0 A) (F0 m 0 ls []) := by
  obtain ⟨hx, hb, hr, hml, hown, hts, hlk, hN, hK, hA⟩ := id X
  intro x1 x2 x3 x4 u H locs ls r u2 hf hP hD hS hl
  unfold fX1_program at hf
  refine lv_aload_n hx hb dX1_program_0 rfl (lv_at hl 0 rfl) ?_
  refine lv_iload_n hx hb dX1_program_1 rfl (lv_at hl 1 rfl) ?_
  obtain ⟨z1, hz2, hf⟩ := bd hf
  refine vz_call (rest := []) X (kX1_hasRoom hz2) (cwV 1 hts gX1_program_X1_hasRoom rfl rfl rfl (by decide +kernel) ⟨Nat.le_of_ble_eq_true rfl, Nat.le_of_ble_eq_true rfl⟩) 1 1 rfl rfl rfl hl.1 rfl (Nat.le_of_ble_eq_true rfl) dX1_program_2 ⟨Nat.zero_le _, Nat.zero_le _⟩ hP hD hS (fun H locs hP hD hS => ?_)
  refine lv_if_eq (tgt := 15) hx hb dX1_program_5 (by decide) (fun c3 => ?_) (fun c3 => ?_)
  · have hf := ift c3 hf
    refine lv_iconst (v := zI 0) hx hb dX1_program_15 (by decide) ?_
    cases hf
    exact vz_zret X rfl hP hD hS dX1_program_16
  · have hf := iff_ c3 hf
    refine lv_aload_n hx hb dX1_program_8 rfl (lv_at hl 0 rfl) ?_
    obtain ⟨z4, hz5, hf⟩ := bd hf
    refine vz_call (rest := []) X (kX1_beginOperation hz5) (cwV 0 hts gX1_program_X1_beginOperation rfl rfl rfl (by decide +kernel) ⟨Nat.le_of_ble_eq_true rfl, Nat.le_of_ble_eq_true rfl⟩) 1 1 rfl rfl rfl hl.1 rfl (Nat.le_of_ble_eq_true rfl) dX1_program_9 ⟨Nat.zero_le _, Nat.zero_le _⟩ hP hD hS (fun H locs hP hD hS => ?_)
    refine lv_if_ne (tgt := 17) hx hb dX1_program_12 (by decide) (fun c6 => ?_) (fun c6 => ?_)
    · have hf := iff_ c6 hf
      refine lv_iload_n hx hb dX1_program_17 rfl (lv_at hl 1 rfl) ?_
      refine lv_iconst (v := zI 4) hx hb dX1_program_18 (by decide) ?_
      refine lv_imul hx hb dX1_program_19 ?_
      refine lv_aload_n hx hb dX1_program_20 rfl (lv_at hl 0 rfl) ?_
      refine va_get (D := D) (ci := 1) (v := .ref (a 7)) (C := RX1) (T := TX1) (N := 11) hx hb hts in_X1_program_X1 hown hK hP 1 rfl rfl 5 (by decide) (hts _ (List.mem_of_getElem? (i := 1) rfl)) (fun _ h9 => h9) rfl dX1_program_21 ?_
      refine lv_iload_n hx hb dX1_program_24 rfl (lv_at hl 1 rfl) ?_
      obtain ⟨g7, hf⟩ := vgs hf
      refine va_iald hx hb hK hP 7 4 rfl rfl g7 dX1_program_25 ?_
      refine lv_iadd hx hb dX1_program_26 ?_
      refine lv_istore (lv' := [(5, .int ((x1 * (zI 4)) + ((xu_prg z4.2) x1.toNatClampNeg))), (0, .ref (a 1)), (1, .int x1), (2, .int x2), (3, .int x3), (4, .int x4)]) hx hb dX1_program_27 hl (by decide) rfl (fun ls hl => ?_)
      refine lv_aload_n hx hb dX1_program_29 rfl (lv_at hl 1 rfl) ?_
      refine va_get (D := D) (ci := 1) (v := .ref (a 7)) (C := RX1) (T := TX1) (N := 11) hx hb hts in_X1_program_X1 hown hK hP 1 rfl rfl 5 (by decide) (hts _ (List.mem_of_getElem? (i := 1) rfl)) (fun _ h9 => h9) rfl dX1_program_30 ?_
      refine lv_iload_n hx hb dX1_program_33 rfl (lv_at hl 2 rfl) ?_
      refine lv_dup2_11 hx hb dX1_program_34 rfl rfl ?_
      obtain ⟨g8, hf⟩ := vgs hf
      refine va_iald hx hb hK hP 7 4 rfl rfl g8 dX1_program_35 ?_
      refine lv_iconst (v := zI 1) hx hb dX1_program_36 (by decide) ?_
      refine lv_iadd hx hb dX1_program_37 ?_
      obtain ⟨g9, hf⟩ := vgs hf
      refine va_iast hx hb hK hP hD hS 7 4 rfl rfl g9 dX1_program_38 (fun H locs hP hD hS => ?_)
      have hP : va_P D vwCl (XW a n cA (xu_s_prg z4.2 (upd (xu_prg z4.2) (x1).toNatClampNeg (((xu_prg z4.2) x1.toNatClampNeg) + (zI 1))))) H := hP
      have hD : va_D A (XW a n cA (xu_s_prg z4.2 (upd (xu_prg z4.2) (x1).toNatClampNeg (((xu_prg z4.2) x1.toNatClampNeg) + (zI 1))))) := hD
      refine lv_aload_n hx hb dX1_program_39 rfl (lv_at hl 1 rfl) ?_
      refine va_get (D := D) (ci := 1) (v := .ref (a 3)) (C := RX1) (T := TX1) (N := 11) hx hb hts in_X1_program_X1 hown hK hP 1 rfl rfl 1 (by decide) (hts _ (List.mem_of_getElem? (i := 2) rfl)) (fun _ h9 => h9) rfl dX1_program_40 ?_
      refine lv_iload hx hb dX1_program_43 (lv_at hl 0 rfl) ?_
      refine lv_iload_n hx hb dX1_program_45 rfl (lv_at hl 3 rfl) ?_
      obtain ⟨g10, hf⟩ := vgs hf
      refine va_iast hx hb hK hP hD hS 3 0 rfl rfl g10 dX1_program_46 (fun H locs hP hD hS => ?_)
      have hP : va_P D vwCl (XW a n cA (xu_s_own (xu_s_prg z4.2 (upd (xu_prg z4.2) (x1).toNatClampNeg (((xu_prg z4.2) x1.toNatClampNeg) + (zI 1)))) (upd (xu_own z4.2) (((x1 * (zI 4)) + ((xu_prg z4.2) x1.toNatClampNeg))).toNatClampNeg x2))) H := hP
      have hD : va_D A (XW a n cA (xu_s_own (xu_s_prg z4.2 (upd (xu_prg z4.2) (x1).toNatClampNeg (((xu_prg z4.2) x1.toNatClampNeg) + (zI 1)))) (upd (xu_own z4.2) (((x1 * (zI 4)) + ((xu_prg z4.2) x1.toNatClampNeg))).toNatClampNeg x2))) := hD
      refine lv_aload_n hx hb dX1_program_47 rfl (lv_at hl 1 rfl) ?_
      refine va_get (D := D) (ci := 1) (v := .ref (a 4)) (C := RX1) (T := TX1) (N := 11) hx hb hts in_X1_program_X1 hown hK hP 1 rfl rfl 2 (by decide) (hts _ (List.mem_of_getElem? (i := 3) rfl)) (fun _ h9 => h9) rfl dX1_program_48 ?_
      refine lv_iload hx hb dX1_program_51 (lv_at hl 0 rfl) ?_
      refine lv_iload_n hx hb dX1_program_53 rfl (lv_at hl 4 rfl) ?_
      obtain ⟨g11, hf⟩ := vgs hf
      refine va_iast hx hb hK hP hD hS 4 1 rfl rfl g11 dX1_program_54 (fun H locs hP hD hS => ?_)
      have hP : va_P D vwCl (XW a n cA (xu_s_val (xu_s_own (xu_s_prg z4.2 (upd (xu_prg z4.2) (x1).toNatClampNeg (((xu_prg z4.2) x1.toNatClampNeg) + (zI 1)))) (upd (xu_own z4.2) (((x1 * (zI 4)) + ((xu_prg z4.2) x1.toNatClampNeg))).toNatClampNeg x2)) (upd (xu_val z4.2) (((x1 * (zI 4)) + ((xu_prg z4.2) x1.toNatClampNeg))).toNatClampNeg x3))) H := hP
      have hD : va_D A (XW a n cA (xu_s_val (xu_s_own (xu_s_prg z4.2 (upd (xu_prg z4.2) (x1).toNatClampNeg (((xu_prg z4.2) x1.toNatClampNeg) + (zI 1)))) (upd (xu_own z4.2) (((x1 * (zI 4)) + ((xu_prg z4.2) x1.toNatClampNeg))).toNatClampNeg x2)) (upd (xu_val z4.2) (((x1 * (zI 4)) + ((xu_prg z4.2) x1.toNatClampNeg))).toNatClampNeg x3))) := hD
      refine lv_aload_n hx hb dX1_program_55 rfl (lv_at hl 1 rfl) ?_
      refine va_get (D := D) (ci := 1) (v := .ref (a 5)) (C := RX1) (T := TX1) (N := 11) hx hb hts in_X1_program_X1 hown hK hP 1 rfl rfl 3 (by decide) (hts _ (List.mem_of_getElem? (i := 4) rfl)) (fun _ h9 => h9) rfl dX1_program_56 ?_
      refine lv_iload hx hb dX1_program_59 (lv_at hl 0 rfl) ?_
      refine lv_iload hx hb dX1_program_61 (lv_at hl 5 rfl) ?_
      obtain ⟨g12, hf⟩ := vgs hf
      refine va_iast hx hb hK hP hD hS 5 2 rfl rfl g12 dX1_program_63 (fun H locs hP hD hS => ?_)
      have hP : va_P D vwCl (XW a n cA (xu_s_kin (xu_s_val (xu_s_own (xu_s_prg z4.2 (upd (xu_prg z4.2) (x1).toNatClampNeg (((xu_prg z4.2) x1.toNatClampNeg) + (zI 1)))) (upd (xu_own z4.2) (((x1 * (zI 4)) + ((xu_prg z4.2) x1.toNatClampNeg))).toNatClampNeg x2)) (upd (xu_val z4.2) (((x1 * (zI 4)) + ((xu_prg z4.2) x1.toNatClampNeg))).toNatClampNeg x3)) (upd (xu_kin z4.2) (((x1 * (zI 4)) + ((xu_prg z4.2) x1.toNatClampNeg))).toNatClampNeg x4))) H := hP
      have hD : va_D A (XW a n cA (xu_s_kin (xu_s_val (xu_s_own (xu_s_prg z4.2 (upd (xu_prg z4.2) (x1).toNatClampNeg (((xu_prg z4.2) x1.toNatClampNeg) + (zI 1)))) (upd (xu_own z4.2) (((x1 * (zI 4)) + ((xu_prg z4.2) x1.toNatClampNeg))).toNatClampNeg x2)) (upd (xu_val z4.2) (((x1 * (zI 4)) + ((xu_prg z4.2) x1.toNatClampNeg))).toNatClampNeg x3)) (upd (xu_kin z4.2) (((x1 * (zI 4)) + ((xu_prg z4.2) x1.toNatClampNeg))).toNatClampNeg x4))) := hD
      refine lv_aload_n hx hb dX1_program_64 rfl (lv_at hl 1 rfl) ?_
      refine va_get (D := D) (ci := 1) (v := .ref (a 6)) (C := RX1) (T := TX1) (N := 11) hx hb hts in_X1_program_X1 hown hK hP 1 rfl rfl 4 (by decide) (hts _ (List.mem_of_getElem? (i := 5) rfl)) (fun _ h9 => h9) rfl dX1_program_65 ?_
      refine lv_iload hx hb dX1_program_68 (lv_at hl 0 rfl) ?_
      refine lv_aload_n hx hb dX1_program_70 rfl (lv_at hl 1 rfl) ?_
      refine va_get (D := D) (ci := 1) (v := .int (xu_nxt z4.2)) (C := RX1) (T := TX1) (N := 11) hx hb hts in_X1_program_X1 hown hK hP 1 rfl rfl 8 (by decide) (hts _ (List.mem_of_getElem? (i := 6) rfl)) (fun _ h9 => h9) rfl dX1_program_71 ?_
      obtain ⟨g13, hf⟩ := vgs hf
      refine va_iast hx hb hK hP hD hS 6 3 rfl rfl g13 dX1_program_74 (fun H locs hP hD hS => ?_)
      have hP : va_P D vwCl (XW a n cA (xu_s_ser (xu_s_kin (xu_s_val (xu_s_own (xu_s_prg z4.2 (upd (xu_prg z4.2) (x1).toNatClampNeg (((xu_prg z4.2) x1.toNatClampNeg) + (zI 1)))) (upd (xu_own z4.2) (((x1 * (zI 4)) + ((xu_prg z4.2) x1.toNatClampNeg))).toNatClampNeg x2)) (upd (xu_val z4.2) (((x1 * (zI 4)) + ((xu_prg z4.2) x1.toNatClampNeg))).toNatClampNeg x3)) (upd (xu_kin z4.2) (((x1 * (zI 4)) + ((xu_prg z4.2) x1.toNatClampNeg))).toNatClampNeg x4)) (upd (xu_ser z4.2) (((x1 * (zI 4)) + ((xu_prg z4.2) x1.toNatClampNeg))).toNatClampNeg (xu_nxt z4.2)))) H := hP
      have hD : va_D A (XW a n cA (xu_s_ser (xu_s_kin (xu_s_val (xu_s_own (xu_s_prg z4.2 (upd (xu_prg z4.2) (x1).toNatClampNeg (((xu_prg z4.2) x1.toNatClampNeg) + (zI 1)))) (upd (xu_own z4.2) (((x1 * (zI 4)) + ((xu_prg z4.2) x1.toNatClampNeg))).toNatClampNeg x2)) (upd (xu_val z4.2) (((x1 * (zI 4)) + ((xu_prg z4.2) x1.toNatClampNeg))).toNatClampNeg x3)) (upd (xu_kin z4.2) (((x1 * (zI 4)) + ((xu_prg z4.2) x1.toNatClampNeg))).toNatClampNeg x4)) (upd (xu_ser z4.2) (((x1 * (zI 4)) + ((xu_prg z4.2) x1.toNatClampNeg))).toNatClampNeg (xu_nxt z4.2)))) := hD
      refine lv_aload_n hx hb dX1_program_75 rfl (lv_at hl 1 rfl) ?_
      refine lv_dup hx hb dX1_program_76 rfl ?_
      refine va_get (D := D) (ci := 1) (v := .int (xu_nxt z4.2)) (C := RX1) (T := TX1) (N := 11) hx hb hts in_X1_program_X1 hown hK hP 1 rfl rfl 8 (by decide) (hts _ (List.mem_of_getElem? (i := 6) rfl)) (fun _ h9 => h9) rfl dX1_program_77 ?_
      refine lv_iconst (v := zI 1) hx hb dX1_program_80 (by decide) ?_
      refine lv_iadd hx hb dX1_program_81 ?_
      refine va_put (D := D) (ci := 1) (v := .int ((xu_nxt z4.2) + (zI 1))) (ty := .int) (C := RX1) (T := TX1) (N := 11) hx hb hts in_X1_program_X1 tyX1 tyX1_ok nmX1 hown hK hP hD hS 1 rfl rfl 8 (by decide) (hts _ (List.mem_of_getElem? (i := 6) rfl)) (fun _ h9 => h9) rfl (by decide +kernel) rfl rfl (Nat.le_of_ble_eq_true rfl) dX1_program_82 (fun H locs hP hD hS => ?_)
      have hP : va_P D vwCl (XW a n cA (xu_s_nxt (xu_s_ser (xu_s_kin (xu_s_val (xu_s_own (xu_s_prg z4.2 (upd (xu_prg z4.2) (x1).toNatClampNeg (((xu_prg z4.2) x1.toNatClampNeg) + (zI 1)))) (upd (xu_own z4.2) (((x1 * (zI 4)) + ((xu_prg z4.2) x1.toNatClampNeg))).toNatClampNeg x2)) (upd (xu_val z4.2) (((x1 * (zI 4)) + ((xu_prg z4.2) x1.toNatClampNeg))).toNatClampNeg x3)) (upd (xu_kin z4.2) (((x1 * (zI 4)) + ((xu_prg z4.2) x1.toNatClampNeg))).toNatClampNeg x4)) (upd (xu_ser z4.2) (((x1 * (zI 4)) + ((xu_prg z4.2) x1.toNatClampNeg))).toNatClampNeg (xu_nxt z4.2))) ((xu_nxt z4.2) + (zI 1)))) H := hP
      have hD : va_D A (XW a n cA (xu_s_nxt (xu_s_ser (xu_s_kin (xu_s_val (xu_s_own (xu_s_prg z4.2 (upd (xu_prg z4.2) (x1).toNatClampNeg (((xu_prg z4.2) x1.toNatClampNeg) + (zI 1)))) (upd (xu_own z4.2) (((x1 * (zI 4)) + ((xu_prg z4.2) x1.toNatClampNeg))).toNatClampNeg x2)) (upd (xu_val z4.2) (((x1 * (zI 4)) + ((xu_prg z4.2) x1.toNatClampNeg))).toNatClampNeg x3)) (upd (xu_kin z4.2) (((x1 * (zI 4)) + ((xu_prg z4.2) x1.toNatClampNeg))).toNatClampNeg x4)) (upd (xu_ser z4.2) (((x1 * (zI 4)) + ((xu_prg z4.2) x1.toNatClampNeg))).toNatClampNeg (xu_nxt z4.2))) ((xu_nxt z4.2) + (zI 1)))) := hD
      refine lv_aload_n hx hb dX1_program_85 rfl (lv_at hl 1 rfl) ?_
      refine va_get (D := D) (ci := 1) (v := .ref (a 9)) (C := RX1) (T := TX1) (N := 11) hx hb hts in_X1_program_X1 hown hK hP 1 rfl rfl 7 (by decide) (hts _ (List.mem_of_getElem? (i := 7) rfl)) (fun _ h9 => h9) rfl dX1_program_86 ?_
      refine lv_iload_n hx hb dX1_program_89 rfl (lv_at hl 3 rfl) ?_
      refine lv_iload hx hb dX1_program_90 (lv_at hl 0 rfl) ?_
      obtain ⟨g14, hf⟩ := vgs hf
      refine va_iast hx hb hK hP hD hS 9 6 rfl rfl g14 dX1_program_92 (fun H locs hP hD hS => ?_)
      have hP : va_P D vwCl (XW a n cA (xu_s_new (xu_s_nxt (xu_s_ser (xu_s_kin (xu_s_val (xu_s_own (xu_s_prg z4.2 (upd (xu_prg z4.2) (x1).toNatClampNeg (((xu_prg z4.2) x1.toNatClampNeg) + (zI 1)))) (upd (xu_own z4.2) (((x1 * (zI 4)) + ((xu_prg z4.2) x1.toNatClampNeg))).toNatClampNeg x2)) (upd (xu_val z4.2) (((x1 * (zI 4)) + ((xu_prg z4.2) x1.toNatClampNeg))).toNatClampNeg x3)) (upd (xu_kin z4.2) (((x1 * (zI 4)) + ((xu_prg z4.2) x1.toNatClampNeg))).toNatClampNeg x4)) (upd (xu_ser z4.2) (((x1 * (zI 4)) + ((xu_prg z4.2) x1.toNatClampNeg))).toNatClampNeg (xu_nxt z4.2))) ((xu_nxt z4.2) + (zI 1))) (upd (xu_new z4.2) (x2).toNatClampNeg ((x1 * (zI 4)) + ((xu_prg z4.2) x1.toNatClampNeg))))) H := hP
      have hD : va_D A (XW a n cA (xu_s_new (xu_s_nxt (xu_s_ser (xu_s_kin (xu_s_val (xu_s_own (xu_s_prg z4.2 (upd (xu_prg z4.2) (x1).toNatClampNeg (((xu_prg z4.2) x1.toNatClampNeg) + (zI 1)))) (upd (xu_own z4.2) (((x1 * (zI 4)) + ((xu_prg z4.2) x1.toNatClampNeg))).toNatClampNeg x2)) (upd (xu_val z4.2) (((x1 * (zI 4)) + ((xu_prg z4.2) x1.toNatClampNeg))).toNatClampNeg x3)) (upd (xu_kin z4.2) (((x1 * (zI 4)) + ((xu_prg z4.2) x1.toNatClampNeg))).toNatClampNeg x4)) (upd (xu_ser z4.2) (((x1 * (zI 4)) + ((xu_prg z4.2) x1.toNatClampNeg))).toNatClampNeg (xu_nxt z4.2))) ((xu_nxt z4.2) + (zI 1))) (upd (xu_new z4.2) (x2).toNatClampNeg ((x1 * (zI 4)) + ((xu_prg z4.2) x1.toNatClampNeg))))) := hD
      refine lv_iconst (v := zI 1) hx hb dX1_program_93 (by decide) ?_
      cases hf
      exact vz_zret X rfl hP hD hS dX1_program_94
    · have hf := ift c6 hf
      refine lv_iconst (v := zI 0) hx hb dX1_program_15 (by decide) ?_
      cases hf
      exact vz_zret X rfl hP hD hS dX1_program_16
end
theorem kX1_program {l : Launch} {D : va_G} {a n : Nat → Nat} {cA : Nat → ClassId} {K : Nat} {x1 x2 x3 x4 : Int32} {u : XU} {r : Int32} {u2 : XU} (h : fX1_program n K x1 x2 x3 x4 u = some (r, u2)) : vzC l D (XT cA) (XW a n cA) yX1_program wsX1_program rmX1_program [.ref (a 1), .int x1, .int x2, .int x3, .int x4] u r u2 := vzC.of (by decide) rfl (Nat.le_of_ble_eq_true rfl) (fun p e s m below meth c A ls X hP hD hl => lbX1_program_e X x1 x2 x3 x4 u s.heap [] ls r u2 h hP hD va_S.rf hl)
abbrev rmX1_erase : Room := { frames := 1, cells := 0, slots := 0, locals := 21 }
theorem in_X1_erase_X1 : ∀ w ∈ u_ws RX1 TX1 11, w ∈ wsX1_erase := fun _ h => List.mem_cons_of_mem _ (List.mem_append_right _ h)
def fX1_erase_11 (n : Nat → Nat) (K : Nat) : Nat → Int32 → Int32 → XU → Option (Int32 × XU)
  | 0, _, _, _ => none
  | N + 1, x1, x2, u => if (zI 4) ≤ x2 then (vg x1 (n 7) (vg x1 (n 8) (vg x1 (n 8) (some (zI 1, xu_s_wea (xu_s_prg u (upd (xu_prg u) (x1).toNatClampNeg (zI 0))) (upd (xu_wea u) (x1).toNatClampNeg (((xu_wea u) x1.toNatClampNeg) + (zI 1)))))))) else (vg ((x1 * (zI 4)) + x2) (n 5) (fX1_erase_11 n K N x1 (x2 + (zI 1)) (xu_s_kin u (upd (xu_kin u) (((x1 * (zI 4)) + x2)).toNatClampNeg (zI 0)))))
def fX1_erase (n : Nat → Nat) (K : Nat) (x1 : Int32) (u : XU) : Option (Int32 × XU) := (fX1_beginOperation n K u).bind fun z1 => (if z1.1 = 0 then (some (zI 0, z1.2)) else (fX1_erase_11 n K K x1 (zI 0) z1.2))
section
variable {p : Program} {l : Launch} {e : Env} {s : State} {m : MethodId} {args : Array Value} {below : List Frame} {meth : Method} {c : Code} {D : va_G} {a n : Nat → Nat} {cA : Nat → ClassId} {A : Nat → Prop}
set_option maxHeartbeats 4000000 in
set_option maxRecDepth 100000 in
theorem lbX1_erase_11 {K : Nat} (X : vzX D (XT cA) A wsX1_erase cX1_erase 3 (some .boolean) RX1 p s m args meth c) : ∀ (N : Nat) (x1 x2 : Int32) (u : XU) (H : Heap) (locs : List Loc) (ls : Array Slot) (r : Int32) (u2 : XU), fX1_erase_11 n K N x1 x2 u = some (r, u2) → va_P D vwCl (XW a n cA u) H → va_D A (XW a n cA u) → va_S A s.heap H locs → lv_has ls 3 [(0, .ref (a 1)), (1, .int x1), (2, .int x2)] → W p l e (headSpec wsX1_erase rmX1_erase).room s m args below meth c H locs 0 0 (MQ below (vzQ D (XT cA) (XW a n cA) A r u2) args s 0 0 A) (F0 m 11 ls []) := by
  obtain ⟨hx, hb, hr, hml, hown, hts, hlk, hN, hK, hA⟩ := id X
  intro N
  induction N with
  | zero =>
    intro x1 x2 u H locs ls r u2 hf
    cases hf
  | succ N ih =>
    intro x1 x2 u H locs ls r u2 hf hP hD hS hl
    rw [fX1_erase_11] at hf
    refine lv_iload_n hx hb dX1_erase_11 rfl (lv_at hl 2 rfl) ?_
    refine lv_iconst (v := zI 4) hx hb dX1_erase_12 (by decide) ?_
    refine lv_icmp_ge (tgt := 33) hx hb dX1_erase_13 (by decide) (fun c4 => ?_) (fun c4 => ?_)
    · have hf := ift c4 hf
      refine lv_aload_n hx hb dX1_erase_33 rfl (lv_at hl 0 rfl) ?_
      refine va_get (D := D) (ci := 1) (v := .ref (a 7)) (C := RX1) (T := TX1) (N := 11) hx hb hts in_X1_erase_X1 hown hK hP 1 rfl rfl 5 (by decide) (hts _ (List.mem_of_getElem? (i := 2) rfl)) (fun _ h9 => h9) rfl dX1_erase_34 ?_
      refine lv_iload_n hx hb dX1_erase_37 rfl (lv_at hl 1 rfl) ?_
      refine lv_iconst (v := zI 0) hx hb dX1_erase_38 (by decide) ?_
      obtain ⟨g5, hf⟩ := vgs hf
      refine va_iast hx hb hK hP hD hS 7 4 rfl rfl g5 dX1_erase_39 (fun H locs hP hD hS => ?_)
      have hP : va_P D vwCl (XW a n cA (xu_s_prg u (upd (xu_prg u) (x1).toNatClampNeg (zI 0)))) H := hP
      have hD : va_D A (XW a n cA (xu_s_prg u (upd (xu_prg u) (x1).toNatClampNeg (zI 0)))) := hD
      refine lv_aload_n hx hb dX1_erase_40 rfl (lv_at hl 0 rfl) ?_
      refine va_get (D := D) (ci := 1) (v := .ref (a 8)) (C := RX1) (T := TX1) (N := 11) hx hb hts in_X1_erase_X1 hown hK hP 1 rfl rfl 6 (by decide) (hts _ (List.mem_of_getElem? (i := 3) rfl)) (fun _ h9 => h9) rfl dX1_erase_41 ?_
      refine lv_iload_n hx hb dX1_erase_44 rfl (lv_at hl 1 rfl) ?_
      refine lv_dup2_11 hx hb dX1_erase_45 rfl rfl ?_
      obtain ⟨g6, hf⟩ := vgs hf
      refine va_iald hx hb hK hP 8 5 rfl rfl g6 dX1_erase_46 ?_
      refine lv_iconst (v := zI 1) hx hb dX1_erase_47 (by decide) ?_
      refine lv_iadd hx hb dX1_erase_48 ?_
      obtain ⟨g7, hf⟩ := vgs hf
      refine va_iast hx hb hK hP hD hS 8 5 rfl rfl g7 dX1_erase_49 (fun H locs hP hD hS => ?_)
      have hP : va_P D vwCl (XW a n cA (xu_s_wea (xu_s_prg u (upd (xu_prg u) (x1).toNatClampNeg (zI 0))) (upd (xu_wea u) (x1).toNatClampNeg (((xu_wea u) x1.toNatClampNeg) + (zI 1))))) H := hP
      have hD : va_D A (XW a n cA (xu_s_wea (xu_s_prg u (upd (xu_prg u) (x1).toNatClampNeg (zI 0))) (upd (xu_wea u) (x1).toNatClampNeg (((xu_wea u) x1.toNatClampNeg) + (zI 1))))) := hD
      refine lv_iconst (v := zI 1) hx hb dX1_erase_50 (by decide) ?_
      cases hf
      exact vz_zret X rfl hP hD hS dX1_erase_51
    · have hf := iff_ c4 hf
      refine lv_aload_n hx hb dX1_erase_16 rfl (lv_at hl 0 rfl) ?_
      refine va_get (D := D) (ci := 1) (v := .ref (a 5)) (C := RX1) (T := TX1) (N := 11) hx hb hts in_X1_erase_X1 hown hK hP 1 rfl rfl 3 (by decide) (hts _ (List.mem_of_getElem? (i := 1) rfl)) (fun _ h9 => h9) rfl dX1_erase_17 ?_
      refine lv_iload_n hx hb dX1_erase_20 rfl (lv_at hl 1 rfl) ?_
      refine lv_iconst (v := zI 4) hx hb dX1_erase_21 (by decide) ?_
      refine lv_imul hx hb dX1_erase_22 ?_
      refine lv_iload_n hx hb dX1_erase_23 rfl (lv_at hl 2 rfl) ?_
      refine lv_iadd hx hb dX1_erase_24 ?_
      refine lv_iconst (v := zI 0) hx hb dX1_erase_25 (by decide) ?_
      obtain ⟨g8, hf⟩ := vgs hf
      refine va_iast hx hb hK hP hD hS 5 2 rfl rfl g8 dX1_erase_26 (fun H locs hP hD hS => ?_)
      have hP : va_P D vwCl (XW a n cA (xu_s_kin u (upd (xu_kin u) (((x1 * (zI 4)) + x2)).toNatClampNeg (zI 0)))) H := hP
      have hD : va_D A (XW a n cA (xu_s_kin u (upd (xu_kin u) (((x1 * (zI 4)) + x2)).toNatClampNeg (zI 0)))) := hD
      refine lv_iinc (v := x2 + (zI 1)) (lv' := [(2, .int (x2 + (zI 1))), (0, .ref (a 1)), (1, .int x1)]) hx hb dX1_erase_27 hl (k := 2) rfl rfl (by decide) rfl (fun ls hl => ?_)
      refine lv_goto (tgt := 11) hx hb dX1_erase_30 (by decide) ?_
      exact ih x1 (x2 + (zI 1)) (xu_s_kin u (upd (xu_kin u) (((x1 * (zI 4)) + x2)).toNatClampNeg (zI 0))) _ _ _ _ _ hf hP hD hS (lv_sub hl [1, 2, 0] rfl)
set_option maxHeartbeats 4000000 in
set_option maxRecDepth 100000 in
theorem lbX1_erase_e {K : Nat} (X : vzX D (XT cA) A wsX1_erase cX1_erase 3 (some .boolean) RX1 p s m args meth c) : ∀ (x1 : Int32) (u : XU) (H : Heap) (locs : List Loc) (ls : Array Slot) (r : Int32) (u2 : XU), fX1_erase n K x1 u = some (r, u2) → va_P D vwCl (XW a n cA u) H → va_D A (XW a n cA u) → va_S A s.heap H locs → lv_has ls 3 [(0, .ref (a 1)), (1, .int x1)] → W p l e (headSpec wsX1_erase rmX1_erase).room s m args below meth c H locs 0 0 (MQ below (vzQ D (XT cA) (XW a n cA) A r u2) args s 0 0 A) (F0 m 0 ls []) := by
  obtain ⟨hx, hb, hr, hml, hown, hts, hlk, hN, hK, hA⟩ := id X
  intro x1 u H locs ls r u2 hf hP hD hS hl
  unfold fX1_erase at hf
  refine lv_aload_n hx hb dX1_erase_0 rfl (lv_at hl 0 rfl) ?_
  obtain ⟨z1, hz2, hf⟩ := bd hf
  refine vz_call (rest := []) X (kX1_beginOperation hz2) (cwV 0 hts gX1_erase_X1_beginOperation rfl rfl rfl (by decide +kernel) ⟨Nat.le_of_ble_eq_true rfl, Nat.le_of_ble_eq_true rfl⟩) 1 1 rfl rfl rfl hl.1 rfl (Nat.le_of_ble_eq_true rfl) dX1_erase_1 ⟨Nat.zero_le _, Nat.zero_le _⟩ hP hD hS (fun H locs hP hD hS => ?_)
  refine lv_if_ne (tgt := 9) hx hb dX1_erase_4 (by decide) (fun c3 => ?_) (fun c3 => ?_)
  · have hf := iff_ c3 hf
    refine lv_iconst (v := zI 0) hx hb dX1_erase_9 (by decide) ?_
    refine lv_istore_n (lv' := [(2, .int (zI 0)), (0, .ref (a 1)), (1, .int x1)]) hx hb dX1_erase_10 rfl hl (by decide) rfl (fun ls hl => ?_)
    exact lbX1_erase_11 X K x1 (zI 0) z1.2 _ _ _ _ _ hf hP hD hS (lv_sub hl [1, 2, 0] rfl)
  · have hf := ift c3 hf
    refine lv_iconst (v := zI 0) hx hb dX1_erase_7 (by decide) ?_
    cases hf
    exact vz_zret X rfl hP hD hS dX1_erase_8
end
theorem kX1_erase {l : Launch} {D : va_G} {a n : Nat → Nat} {cA : Nat → ClassId} {K : Nat} {x1 : Int32} {u : XU} {r : Int32} {u2 : XU} (h : fX1_erase n K x1 u = some (r, u2)) : vzC l D (XT cA) (XW a n cA) yX1_erase wsX1_erase rmX1_erase [.ref (a 1), .int x1] u r u2 := vzC.of (by decide) rfl (Nat.le_of_ble_eq_true rfl) (fun p e s m below meth c A ls X hP hD hl => lbX1_erase_e X x1 u s.heap [] ls r u2 h hP hD va_S.rf hl)
