abbrev rmX1_partlyProgrammed : Room := { frames := 0, cells := 0, slots := 0, locals := 0 }
theorem in_X1_partlyProgrammed_X1 : ∀ w ∈ u_ws RX1 TX1 11, w ∈ wsX1_partlyProgrammed := fun _ h => List.mem_cons_of_mem _ (List.mem_append_right _ h)
def fX1_partlyProgrammed_2 (n : Nat → Nat) (K : Nat) : Nat → Int32 → XU → Option (Int32 × XU)
  | 0, _, _ => none
  | N + 1, x1, u => if (xu_blk u) ≤ x1 then (some (zI (-1), u)) else (vg x1 (n 7) (if ((xu_prg u) x1.toNatClampNeg) ≤ 0 then (fX1_partlyProgrammed_2 n K N (x1 + (zI 1)) u) else (vg x1 (n 7) (if (zI 4) ≤ ((xu_prg u) x1.toNatClampNeg) then (fX1_partlyProgrammed_2 n K N (x1 + (zI 1)) u) else (some (x1, u))))))
def fX1_partlyProgrammed (n : Nat → Nat) (K : Nat) (u : XU) : Option (Int32 × XU) := fX1_partlyProgrammed_2 n K K (zI 0) u
section
variable {p : Program} {l : Launch} {e : Env} {s : State} {m : MethodId} {args : Array Value} {below : List Frame} {meth : Method} {c : Code} {D : va_G} {a n : Nat → Nat} {cA : Nat → ClassId} {A : Nat → Prop}
set_option maxHeartbeats 4000000 in
set_option maxRecDepth 100000 in
theorem lbX1_partlyProgrammed_2 {K : Nat} (X : vzX D (XT cA) A wsX1_partlyProgrammed cX1_partlyProgrammed 2 (some .int) RX1 p s m args meth c) : ∀ (N : Nat) (x1 : Int32) (u : XU) (H : Heap) (locs : List Loc) (ls : Array Slot) (r : Int32) (u2 : XU), fX1_partlyProgrammed_2 n K N x1 u = some (r, u2) → va_P D vwCl (XW a n cA u) H → va_D A (XW a n cA u) → va_S A s.heap H locs → lv_has ls 2 [(0, .ref (a 1)), (1, .int x1)] → W p l e (headSpec wsX1_partlyProgrammed rmX1_partlyProgrammed).room s m args below meth c H locs 0 0 (MQ below (vzQ D (XT cA) (XW a n cA) A r u2) args s 0 0 A) (F0 m 2 ls []) := by
  obtain ⟨hx, hb, hr, hml, hown, hts, hlk, hN, hK, hA⟩ := id X
  intro N
  induction N with
  | zero =>
    intro x1 u H locs ls r u2 hf
    cases hf
  | succ N ih =>
    intro x1 u H locs ls r u2 hf hP hD hS hl
    rw [fX1_partlyProgrammed_2] at hf
    refine lv_iload_n hx hb dX1_partlyProgrammed_2 rfl (lv_at hl 1 rfl) ?_
    refine lv_aload_n hx hb dX1_partlyProgrammed_3 rfl (lv_at hl 0 rfl) ?_
    refine va_get (D := D) (ci := 1) (v := .int (xu_blk u)) (C := RX1) (T := TX1) (N := 11) hx hb hts in_X1_partlyProgrammed_X1 hown hK hP 1 rfl rfl 0 (by decide) (hts _ (List.mem_of_getElem? (i := 1) rfl)) (fun _ h9 => h9) rfl dX1_partlyProgrammed_4 ?_
    refine lv_icmp_ge (tgt := 37) hx hb dX1_partlyProgrammed_7 (by decide) (fun c1 => ?_) (fun c1 => ?_)
    · have hf := ift c1 hf
      refine lv_iconst (v := zI (-1)) hx hb dX1_partlyProgrammed_37 (by decide) ?_
      cases hf
      exact vz_iret X hP hD hS dX1_partlyProgrammed_38
    · have hf := iff_ c1 hf
      refine lv_aload_n hx hb dX1_partlyProgrammed_10 rfl (lv_at hl 0 rfl) ?_
      refine va_get (D := D) (ci := 1) (v := .ref (a 7)) (C := RX1) (T := TX1) (N := 11) hx hb hts in_X1_partlyProgrammed_X1 hown hK hP 1 rfl rfl 5 (by decide) (hts _ (List.mem_of_getElem? (i := 2) rfl)) (fun _ h9 => h9) rfl dX1_partlyProgrammed_11 ?_
      refine lv_iload_n hx hb dX1_partlyProgrammed_14 rfl (lv_at hl 1 rfl) ?_
      obtain ⟨g2, hf⟩ := vgs hf
      refine va_iald hx hb hK hP 7 4 rfl rfl g2 dX1_partlyProgrammed_15 ?_
      refine lv_if_le (tgt := 31) hx hb dX1_partlyProgrammed_16 (by decide) (fun c3 => ?_) (fun c3 => ?_)
      · have hf := ift c3 hf
        refine lv_iinc (v := x1 + (zI 1)) (lv' := [(1, .int (x1 + (zI 1))), (0, .ref (a 1))]) hx hb dX1_partlyProgrammed_31 hl (k := 1) rfl rfl (by decide) rfl (fun ls hl => ?_)
        refine lv_goto (tgt := 2) hx hb dX1_partlyProgrammed_34 (by decide) ?_
        exact ih (x1 + (zI 1)) u _ _ _ _ _ hf hP hD hS (lv_sub hl [1, 0] rfl)
      · have hf := iff_ c3 hf
        refine lv_aload_n hx hb dX1_partlyProgrammed_19 rfl (lv_at hl 0 rfl) ?_
        refine va_get (D := D) (ci := 1) (v := .ref (a 7)) (C := RX1) (T := TX1) (N := 11) hx hb hts in_X1_partlyProgrammed_X1 hown hK hP 1 rfl rfl 5 (by decide) (hts _ (List.mem_of_getElem? (i := 2) rfl)) (fun _ h9 => h9) rfl dX1_partlyProgrammed_20 ?_
        refine lv_iload_n hx hb dX1_partlyProgrammed_23 rfl (lv_at hl 1 rfl) ?_
        obtain ⟨g4, hf⟩ := vgs hf
        refine va_iald hx hb hK hP 7 4 rfl rfl g4 dX1_partlyProgrammed_24 ?_
        refine lv_iconst (v := zI 4) hx hb dX1_partlyProgrammed_25 (by decide) ?_
        refine lv_icmp_ge (tgt := 31) hx hb dX1_partlyProgrammed_26 (by decide) (fun c5 => ?_) (fun c5 => ?_)
        · have hf := ift c5 hf
          refine lv_iinc (v := x1 + (zI 1)) (lv' := [(1, .int (x1 + (zI 1))), (0, .ref (a 1))]) hx hb dX1_partlyProgrammed_31 hl (k := 1) rfl rfl (by decide) rfl (fun ls hl => ?_)
          refine lv_goto (tgt := 2) hx hb dX1_partlyProgrammed_34 (by decide) ?_
          exact ih (x1 + (zI 1)) u _ _ _ _ _ hf hP hD hS (lv_sub hl [1, 0] rfl)
        · have hf := iff_ c5 hf
          refine lv_iload_n hx hb dX1_partlyProgrammed_29 rfl (lv_at hl 1 rfl) ?_
          cases hf
          exact vz_iret X hP hD hS dX1_partlyProgrammed_30
set_option maxHeartbeats 4000000 in
set_option maxRecDepth 100000 in
theorem lbX1_partlyProgrammed_e {K : Nat} (X : vzX D (XT cA) A wsX1_partlyProgrammed cX1_partlyProgrammed 2 (some .int) RX1 p s m args meth c) : ∀ (u : XU) (H : Heap) (locs : List Loc) (ls : Array Slot) (r : Int32) (u2 : XU), fX1_partlyProgrammed n K u = some (r, u2) → va_P D vwCl (XW a n cA u) H → va_D A (XW a n cA u) → va_S A s.heap H locs → lv_has ls 2 [(0, .ref (a 1))] → W p l e (headSpec wsX1_partlyProgrammed rmX1_partlyProgrammed).room s m args below meth c H locs 0 0 (MQ below (vzQ D (XT cA) (XW a n cA) A r u2) args s 0 0 A) (F0 m 0 ls []) := by
  obtain ⟨hx, hb, hr, hml, hown, hts, hlk, hN, hK, hA⟩ := id X
  intro u H locs ls r u2 hf hP hD hS hl
  unfold fX1_partlyProgrammed at hf
  refine lv_iconst (v := zI 0) hx hb dX1_partlyProgrammed_0 (by decide) ?_
  refine lv_istore_n (lv' := [(1, .int (zI 0)), (0, .ref (a 1))]) hx hb dX1_partlyProgrammed_1 rfl hl (by decide) rfl (fun ls hl => ?_)
  exact lbX1_partlyProgrammed_2 X K (zI 0) u _ _ _ _ _ hf hP hD hS (lv_sub hl [1, 0] rfl)
end
theorem kX1_partlyProgrammed {l : Launch} {D : va_G} {a n : Nat → Nat} {cA : Nat → ClassId} {K : Nat} {u : XU} {r : Int32} {u2 : XU} (h : fX1_partlyProgrammed n K u = some (r, u2)) : vzC l D (XT cA) (XW a n cA) yX1_partlyProgrammed wsX1_partlyProgrammed rmX1_partlyProgrammed [.ref (a 1)] u r u2 := vzC.of (by decide) rfl (Nat.le_of_ble_eq_true rfl) (fun p e s m below meth c A ls X hP hD hl => lbX1_partlyProgrammed_e X u s.heap [] ls r u2 h hP hD va_S.rf hl)
abbrev rmX1_wearGap : Room := { frames := 1, cells := 0, slots := 0, locals := 13 }
theorem in_X1_wearGap_X1 : ∀ w ∈ u_ws RX1 TX1 11, w ∈ wsX1_wearGap := fun _ h => List.mem_cons_of_mem _ (List.mem_append_right _ h)
def fX1_wearGap_16 (n : Nat → Nat) (K : Nat) : Nat → Int32 → Int32 → Int32 → XU → Option (Int32 × XU)
  | 0, _, _, _, _ => none
  | N + 1, x1, x2, x3, u => if (xu_blk u) ≤ x3 then (some (x2 - x1, u)) else (vg x3 (n 8) (vg x3 (n 8) (fX1_wearGap_16 n K N (if ((xu_wea u) x3.toNatClampNeg) < x1 then (xu_wea u) x3.toNatClampNeg else x1) (if x2 < ((xu_wea u) x3.toNatClampNeg) then (xu_wea u) x3.toNatClampNeg else x2) (x3 + (zI 1)) u)))
def fX1_wearGap (n : Nat → Nat) (K : Nat) (u : XU) : Option (Int32 × XU) := vg (zI 0) (n 8) (vg (zI 0) (n 8) (fX1_wearGap_16 n K K ((xu_wea u) ((zI 0)).toNatClampNeg) ((xu_wea u) ((zI 0)).toNatClampNeg) (zI 1) u))
section
variable {p : Program} {l : Launch} {e : Env} {s : State} {m : MethodId} {args : Array Value} {below : List Frame} {meth : Method} {c : Code} {D : va_G} {a n : Nat → Nat} {cA : Nat → ClassId} {A : Nat → Prop}
set_option maxHeartbeats 4000000 in
set_option maxRecDepth 100000 in
theorem lbX1_wearGap_16 {K : Nat} (X : vzX D (XT cA) A wsX1_wearGap cX1_wearGap 4 (some .int) RX1 p s m args meth c) : ∀ (N : Nat) (x1 x2 x3 : Int32) (u : XU) (H : Heap) (locs : List Loc) (ls : Array Slot) (r : Int32) (u2 : XU), fX1_wearGap_16 n K N x1 x2 x3 u = some (r, u2) → va_P D vwCl (XW a n cA u) H → va_D A (XW a n cA u) → va_S A s.heap H locs → lv_has ls 4 [(0, .ref (a 1)), (1, .int x1), (2, .int x2), (3, .int x3)] → W p l e (headSpec wsX1_wearGap rmX1_wearGap).room s m args below meth c H locs 0 0 (MQ below (vzQ D (XT cA) (XW a n cA) A r u2) args s 0 0 A) (F0 m 16 ls []) := by
  obtain ⟨hx, hb, hr, hml, hown, hts, hlk, hN, hK, hA⟩ := id X
  intro N
  induction N with
  | zero =>
    intro x1 x2 x3 u H locs ls r u2 hf
    cases hf
  | succ N ih =>
    intro x1 x2 x3 u H locs ls r u2 hf hP hD hS hl
    rw [fX1_wearGap_16] at hf
    refine lv_iload_n hx hb dX1_wearGap_16 rfl (lv_at hl 3 rfl) ?_
    refine lv_aload_n hx hb dX1_wearGap_17 rfl (lv_at hl 0 rfl) ?_
    refine va_get (D := D) (ci := 1) (v := .int (xu_blk u)) (C := RX1) (T := TX1) (N := 11) hx hb hts in_X1_wearGap_X1 hown hK hP 1 rfl rfl 0 (by decide) (hts _ (List.mem_of_getElem? (i := 2) rfl)) (fun _ h9 => h9) rfl dX1_wearGap_18 ?_
    refine lv_icmp_ge (tgt := 52) hx hb dX1_wearGap_21 (by decide) (fun c3 => ?_) (fun c3 => ?_)
    · have hf := ift c3 hf
      refine lv_iload_n hx hb dX1_wearGap_52 rfl (lv_at hl 2 rfl) ?_
      refine lv_iload_n hx hb dX1_wearGap_53 rfl (lv_at hl 1 rfl) ?_
      refine lv_isub hx hb dX1_wearGap_54 ?_
      cases hf
      exact vz_iret X hP hD hS dX1_wearGap_55
    · have hf := iff_ c3 hf
      refine lv_iload_n hx hb dX1_wearGap_24 rfl (lv_at hl 1 rfl) ?_
      refine lv_aload_n hx hb dX1_wearGap_25 rfl (lv_at hl 0 rfl) ?_
      refine va_get (D := D) (ci := 1) (v := .ref (a 8)) (C := RX1) (T := TX1) (N := 11) hx hb hts in_X1_wearGap_X1 hown hK hP 1 rfl rfl 6 (by decide) (hts _ (List.mem_of_getElem? (i := 1) rfl)) (fun _ h9 => h9) rfl dX1_wearGap_26 ?_
      refine lv_iload_n hx hb dX1_wearGap_29 rfl (lv_at hl 3 rfl) ?_
      obtain ⟨g4, hf⟩ := vgs hf
      refine va_iald hx hb hK hP 8 5 rfl rfl g4 dX1_wearGap_30 ?_
      refine va_mmin hx hb (hml.trans hl.1.symm) hown (hts _ (List.mem_of_getElem? (i := 3) rfl)) (hts _ (List.mem_of_getElem? (i := 4) rfl)) (hts _ (List.mem_of_getElem? (i := 5) rfl)) (hts _ (List.mem_of_getElem? (i := 6) rfl)) (Nat.le_of_ble_eq_true rfl) (Nat.le_of_ble_eq_true rfl) (Nat.zero_le _) (Nat.zero_le _) dX1_wearGap_31 ?_
      refine lv_istore_n (lv' := [(1, .int (if ((xu_wea u) x3.toNatClampNeg) < x1 then (xu_wea u) x3.toNatClampNeg else x1)), (0, .ref (a 1)), (2, .int x2), (3, .int x3)]) hx hb dX1_wearGap_34 rfl hl (by decide) rfl (fun ls hl => ?_)
      refine lv_iload_n hx hb dX1_wearGap_35 rfl (lv_at hl 2 rfl) ?_
      refine lv_aload_n hx hb dX1_wearGap_36 rfl (lv_at hl 1 rfl) ?_
      refine va_get (D := D) (ci := 1) (v := .ref (a 8)) (C := RX1) (T := TX1) (N := 11) hx hb hts in_X1_wearGap_X1 hown hK hP 1 rfl rfl 6 (by decide) (hts _ (List.mem_of_getElem? (i := 1) rfl)) (fun _ h9 => h9) rfl dX1_wearGap_37 ?_
      refine lv_iload_n hx hb dX1_wearGap_40 rfl (lv_at hl 3 rfl) ?_
      obtain ⟨g5, hf⟩ := vgs hf
      refine va_iald hx hb hK hP 8 5 rfl rfl g5 dX1_wearGap_41 ?_
      refine va_mmax hx hb (hml.trans hl.1.symm) hown (hts _ (List.mem_of_getElem? (i := 7) rfl)) (hts _ (List.mem_of_getElem? (i := 8) rfl)) (hts _ (List.mem_of_getElem? (i := 5) rfl)) (hts _ (List.mem_of_getElem? (i := 9) rfl)) (Nat.le_of_ble_eq_true rfl) (Nat.le_of_ble_eq_true rfl) (Nat.zero_le _) (Nat.zero_le _) dX1_wearGap_42 ?_
      refine lv_istore_n (lv' := [(2, .int (if x2 < ((xu_wea u) x3.toNatClampNeg) then (xu_wea u) x3.toNatClampNeg else x2)), (1, .int (if ((xu_wea u) x3.toNatClampNeg) < x1 then (xu_wea u) x3.toNatClampNeg else x1)), (0, .ref (a 1)), (3, .int x3)]) hx hb dX1_wearGap_45 rfl hl (by decide) rfl (fun ls hl => ?_)
      refine lv_iinc (v := x3 + (zI 1)) (lv' := [(3, .int (x3 + (zI 1))), (2, .int (if x2 < ((xu_wea u) x3.toNatClampNeg) then (xu_wea u) x3.toNatClampNeg else x2)), (1, .int (if ((xu_wea u) x3.toNatClampNeg) < x1 then (xu_wea u) x3.toNatClampNeg else x1)), (0, .ref (a 1))]) hx hb dX1_wearGap_46 hl (k := 3) rfl rfl (by decide) rfl (fun ls hl => ?_)
      refine lv_goto (tgt := 16) hx hb dX1_wearGap_49 (by decide) ?_
      exact ih (if ((xu_wea u) x3.toNatClampNeg) < x1 then (xu_wea u) x3.toNatClampNeg else x1) (if x2 < ((xu_wea u) x3.toNatClampNeg) then (xu_wea u) x3.toNatClampNeg else x2) (x3 + (zI 1)) u _ _ _ _ _ hf hP hD hS (lv_sub hl [3, 2, 1, 0] rfl)
set_option maxHeartbeats 4000000 in
set_option maxRecDepth 100000 in
theorem lbX1_wearGap_e {K : Nat} (X : vzX D (XT cA) A wsX1_wearGap cX1_wearGap 4 (some .int) RX1 p s m args meth c) : ∀ (u : XU) (H : Heap) (locs : List Loc) (ls : Array Slot) (r : Int32) (u2 : XU), fX1_wearGap n K u = some (r, u2) → va_P D vwCl (XW a n cA u) H → va_D A (XW a n cA u) → va_S A s.heap H locs → lv_has ls 4 [(0, .ref (a 1))] → W p l e (headSpec wsX1_wearGap rmX1_wearGap).room s m args below meth c H locs 0 0 (MQ below (vzQ D (XT cA) (XW a n cA) A r u2) args s 0 0 A) (F0 m 0 ls []) := by
  obtain ⟨hx, hb, hr, hml, hown, hts, hlk, hN, hK, hA⟩ := id X
  intro u H locs ls r u2 hf hP hD hS hl
  unfold fX1_wearGap at hf
  refine lv_aload_n hx hb dX1_wearGap_0 rfl (lv_at hl 0 rfl) ?_
  refine va_get (D := D) (ci := 1) (v := .ref (a 8)) (C := RX1) (T := TX1) (N := 11) hx hb hts in_X1_wearGap_X1 hown hK hP 1 rfl rfl 6 (by decide) (hts _ (List.mem_of_getElem? (i := 1) rfl)) (fun _ h9 => h9) rfl dX1_wearGap_1 ?_
  refine lv_iconst (v := zI 0) hx hb dX1_wearGap_4 (by decide) ?_
  obtain ⟨g1, hf⟩ := vgs hf
  refine va_iald hx hb hK hP 8 5 rfl rfl g1 dX1_wearGap_5 ?_
  refine lv_istore_n (lv' := [(1, .int ((xu_wea u) ((zI 0)).toNatClampNeg)), (0, .ref (a 1))]) hx hb dX1_wearGap_6 rfl hl (by decide) rfl (fun ls hl => ?_)
  refine lv_aload_n hx hb dX1_wearGap_7 rfl (lv_at hl 1 rfl) ?_
  refine va_get (D := D) (ci := 1) (v := .ref (a 8)) (C := RX1) (T := TX1) (N := 11) hx hb hts in_X1_wearGap_X1 hown hK hP 1 rfl rfl 6 (by decide) (hts _ (List.mem_of_getElem? (i := 1) rfl)) (fun _ h9 => h9) rfl dX1_wearGap_8 ?_
  refine lv_iconst (v := zI 0) hx hb dX1_wearGap_11 (by decide) ?_
  obtain ⟨g2, hf⟩ := vgs hf
  refine va_iald hx hb hK hP 8 5 rfl rfl g2 dX1_wearGap_12 ?_
  refine lv_istore_n (lv' := [(2, .int ((xu_wea u) ((zI 0)).toNatClampNeg)), (1, .int ((xu_wea u) ((zI 0)).toNatClampNeg)), (0, .ref (a 1))]) hx hb dX1_wearGap_13 rfl hl (by decide) rfl (fun ls hl => ?_)
  refine lv_iconst (v := zI 1) hx hb dX1_wearGap_14 (by decide) ?_
  refine lv_istore_n (lv' := [(3, .int (zI 1)), (2, .int ((xu_wea u) ((zI 0)).toNatClampNeg)), (1, .int ((xu_wea u) ((zI 0)).toNatClampNeg)), (0, .ref (a 1))]) hx hb dX1_wearGap_15 rfl hl (by decide) rfl (fun ls hl => ?_)
  exact lbX1_wearGap_16 X K ((xu_wea u) ((zI 0)).toNatClampNeg) ((xu_wea u) ((zI 0)).toNatClampNeg) (zI 1) u _ _ _ _ _ hf hP hD hS (lv_sub hl [3, 2, 1, 0] rfl)
end
theorem kX1_wearGap {l : Launch} {D : va_G} {a n : Nat → Nat} {cA : Nat → ClassId} {K : Nat} {u : XU} {r : Int32} {u2 : XU} (h : fX1_wearGap n K u = some (r, u2)) : vzC l D (XT cA) (XW a n cA) yX1_wearGap wsX1_wearGap rmX1_wearGap [.ref (a 1)] u r u2 := vzC.of (by decide) rfl (Nat.le_of_ble_eq_true rfl) (fun p e s m below meth c A ls X hP hD hl => lbX1_wearGap_e X u s.heap [] ls r u2 h hP hD va_S.rf hl)
