abbrev rmX2_sectors : Room := { frames := 0, cells := 0, slots := 0, locals := 0 }
theorem in_X2_sectors_X2 : ∀ w ∈ u_ws RX2 TX2 4, w ∈ wsX2_sectors := fun _ h => List.mem_cons_of_mem _ (List.mem_append_left _ (List.mem_append_right _ h))
theorem in_X2_sectors_X1 : ∀ w ∈ u_ws RX1 TX1 11, w ∈ wsX2_sectors := fun _ h => List.mem_cons_of_mem _ (List.mem_append_right _ h)
def fX2_sectors (n : Nat → Nat) (K : Nat) (u : XU) : Option (Int32 × XU) := some (nI (n 9), u)
section
variable {p : Program} {l : Launch} {e : Env} {s : State} {m : MethodId} {args : Array Value} {below : List Frame} {meth : Method} {c : Code} {D : va_G} {a n : Nat → Nat} {cA : Nat → ClassId} {A : Nat → Prop}
set_option maxHeartbeats 4000000 in
set_option maxRecDepth 100000 in
theorem lbX2_sectors_e {K : Nat} (X : vzX D (XT cA) A wsX2_sectors cX2_sectors 1 (some .int) RX2 p s m args meth c) : ∀ (u : XU) (H : Heap) (locs : List Loc) (ls : Array Slot) (r : Int32) (u2 : XU), fX2_sectors n K u = some (r, u2) → va_P D vwCl (XW a n cA u) H → va_D A (XW a n cA u) → va_S A s.heap H locs → lv_has ls 1 [(0, .ref (a 0))] → W p l e (headSpec wsX2_sectors rmX2_sectors).room s m args below meth c H locs 0 0 (MQ below (vzQ D (XT cA) (XW a n cA) A r u2) args s 0 0 A) (F0 m 0 ls []) := by
  obtain ⟨hx, hb, hr, hml, hown, hts, hlk, hN, hK, hA⟩ := id X
  intro u H locs ls r u2 hf hP hD hS hl
  unfold fX2_sectors at hf
  refine lv_aload_n hx hb dX2_sectors_0 rfl (lv_at hl 0 rfl) ?_
  refine va_get (D := D) (ci := 2) (v := .ref (a 1)) (C := RX2) (T := TX2) (N := 4) hx hb hts in_X2_sectors_X2 hown hK hP 0 rfl rfl 0 (by decide) (hts _ (List.mem_of_getElem? (i := 1) rfl)) (fun _ h9 => h9) rfl dX2_sectors_1 ?_
  refine va_getN (D := D) (ci := 1) (v := .ref (a 9)) (C := RX1) (T := TX1) (N := 11) hx hb hts in_X2_sectors_X1 hown hK hP 1 rfl rfl 7 (by decide) (hN.at 5 rfl) (fun _ h9 => h9) rfl dX2_sectors_4 ?_
  refine va_alen (v := nI (n 9)) (ty := .int) hx hb hK hP 9 6 rfl rfl rfl dX2_sectors_7 ?_
  cases hf
  exact vz_iret X hP hD hS dX2_sectors_8
end
theorem kX2_sectors {l : Launch} {D : va_G} {a n : Nat → Nat} {cA : Nat → ClassId} {K : Nat} {u : XU} {r : Int32} {u2 : XU} (h : fX2_sectors n K u = some (r, u2)) : vzC l D (XT cA) (XW a n cA) yX2_sectors wsX2_sectors rmX2_sectors [.ref (a 0)] u r u2 := vzC.of (by decide) rfl (Nat.le_of_ble_eq_true rfl) (fun p e s m below meth c A ls X hP hD hl => lbX2_sectors_e X u s.heap [] ls r u2 h hP hD va_S.rf hl)
abbrev rmX2_isSector : Room := { frames := 0, cells := 0, slots := 0, locals := 0 }
theorem in_X2_isSector_X2 : ∀ w ∈ u_ws RX2 TX2 4, w ∈ wsX2_isSector := fun _ h => List.mem_cons_of_mem _ (List.mem_append_left _ (List.mem_append_right _ h))
theorem in_X2_isSector_X1 : ∀ w ∈ u_ws RX1 TX1 11, w ∈ wsX2_isSector := fun _ h => List.mem_cons_of_mem _ (List.mem_append_right _ h)
def fX2_isSector (n : Nat → Nat) (K : Nat) (x1 : Int32) (u : XU) : Option (Int32 × XU) := if x1 < 0 then (some (zI 0, u)) else (if (nI (n 9)) ≤ x1 then (some (zI 0, u)) else (some (zI 1, u)))
section
variable {p : Program} {l : Launch} {e : Env} {s : State} {m : MethodId} {args : Array Value} {below : List Frame} {meth : Method} {c : Code} {D : va_G} {a n : Nat → Nat} {cA : Nat → ClassId} {A : Nat → Prop}
set_option maxHeartbeats 4000000 in
set_option maxRecDepth 100000 in
theorem lbX2_isSector_e {K : Nat} (X : vzX D (XT cA) A wsX2_isSector cX2_isSector 2 (some .boolean) RX2 p s m args meth c) : ∀ (x1 : Int32) (u : XU) (H : Heap) (locs : List Loc) (ls : Array Slot) (r : Int32) (u2 : XU), fX2_isSector n K x1 u = some (r, u2) → va_P D vwCl (XW a n cA u) H → va_D A (XW a n cA u) → va_S A s.heap H locs → lv_has ls 2 [(0, .ref (a 0)), (1, .int x1)] → W p l e (headSpec wsX2_isSector rmX2_isSector).room s m args below meth c H locs 0 0 (MQ below (vzQ D (XT cA) (XW a n cA) A r u2) args s 0 0 A) (F0 m 0 ls []) := by
  obtain ⟨hx, hb, hr, hml, hown, hts, hlk, hN, hK, hA⟩ := id X
  intro x1 u H locs ls r u2 hf hP hD hS hl
  unfold fX2_isSector at hf
  refine lv_iload_n hx hb dX2_isSector_0 rfl (lv_at hl 1 rfl) ?_
  refine lv_if_lt (tgt := 20) hx hb dX2_isSector_1 (by decide) (fun c1 => ?_) (fun c1 => ?_)
  · have hf := ift c1 hf
    refine lv_iconst (v := zI 0) hx hb dX2_isSector_20 (by decide) ?_
    cases hf
    exact vz_zret X rfl hP hD hS dX2_isSector_21
  · have hf := iff_ c1 hf
    refine lv_iload_n hx hb dX2_isSector_4 rfl (lv_at hl 1 rfl) ?_
    refine lv_aload_n hx hb dX2_isSector_5 rfl (lv_at hl 0 rfl) ?_
    refine va_get (D := D) (ci := 2) (v := .ref (a 1)) (C := RX2) (T := TX2) (N := 4) hx hb hts in_X2_isSector_X2 hown hK hP 0 rfl rfl 0 (by decide) (hts _ (List.mem_of_getElem? (i := 1) rfl)) (fun _ h9 => h9) rfl dX2_isSector_6 ?_
    refine va_getN (D := D) (ci := 1) (v := .ref (a 9)) (C := RX1) (T := TX1) (N := 11) hx hb hts in_X2_isSector_X1 hown hK hP 1 rfl rfl 7 (by decide) (hN.at 5 rfl) (fun _ h9 => h9) rfl dX2_isSector_9 ?_
    refine va_alen (v := nI (n 9)) (ty := .int) hx hb hK hP 9 6 rfl rfl rfl dX2_isSector_12 ?_
    refine lv_icmp_ge (tgt := 20) hx hb dX2_isSector_13 (by decide) (fun c2 => ?_) (fun c2 => ?_)
    · have hf := ift c2 hf
      refine lv_iconst (v := zI 0) hx hb dX2_isSector_20 (by decide) ?_
      cases hf
      exact vz_zret X rfl hP hD hS dX2_isSector_21
    · have hf := iff_ c2 hf
      refine lv_iconst (v := zI 1) hx hb dX2_isSector_16 (by decide) ?_
      refine lv_goto (tgt := 21) hx hb dX2_isSector_17 (by decide) ?_
      cases hf
      exact vz_zret X rfl hP hD hS dX2_isSector_21
end
theorem kX2_isSector {l : Launch} {D : va_G} {a n : Nat → Nat} {cA : Nat → ClassId} {K : Nat} {x1 : Int32} {u : XU} {r : Int32} {u2 : XU} (h : fX2_isSector n K x1 u = some (r, u2)) : vzC l D (XT cA) (XW a n cA) yX2_isSector wsX2_isSector rmX2_isSector [.ref (a 0), .int x1] u r u2 := vzC.of (by decide) rfl (Nat.le_of_ble_eq_true rfl) (fun p e s m below meth c A ls X hP hD hl => lbX2_isSector_e X x1 u s.heap [] ls r u2 h hP hD va_S.rf hl)
abbrev rmX2_collect : Room := { frames := 2, cells := 0, slots := 0, locals := 46 }
theorem in_X2_collect_X2 : ∀ w ∈ u_ws RX2 TX2 4, w ∈ wsX2_collect := fun _ h => List.mem_cons_of_mem _ (List.mem_append_left _ (List.mem_append_right _ h))
theorem in_X2_collect_X1 : ∀ w ∈ u_ws RX1 TX1 11, w ∈ wsX2_collect := fun _ h => List.mem_cons_of_mem _ (List.mem_append_right _ h)
def fX2_collect_13 (n : Nat → Nat) (K : Nat) : Nat → Int32 → Int32 → Int32 → XU → Option (Int32 × XU)
  | 0, _, _, _, _ => none
  | N + 1, x1, x2, x3, u => if (x2 + (zI 4)) ≤ x3 then ((fX1_erase n K x1 u).bind fun z3 => (vb z3.1 (some (z3.1, z3.2)))) else ((fX1_isValid n K x3 u).bind fun z6 => (if z6.1 = 0 then (fX2_collect_13 n K N x1 x2 (x3 + (zI 1)) z6.2) else (vg x3 (n 3) (vg x3 (n 4) (vg x3 (n 5) ((fX1_program n K (xu_opn z6.2) ((xu_own z6.2) x3.toNatClampNeg) ((xu_val z6.2) x3.toNatClampNeg) ((xu_kin z6.2) x3.toNatClampNeg) z6.2).bind fun z12 => (if z12.1 = 0 then (some (zI 0, z12.2)) else (fX2_collect_13 n K N x1 x2 (x3 + (zI 1)) z12.2))))))))
def fX2_collect (n : Nat → Nat) (K : Nat) (x1 : Int32) (u : XU) : Option (Int32 × XU) := if x1 = (zI (-1)) then (some (zI 0, u)) else (fX2_collect_13 n K K x1 (x1 * (zI 4)) (x1 * (zI 4)) u)
section
variable {p : Program} {l : Launch} {e : Env} {s : State} {m : MethodId} {args : Array Value} {below : List Frame} {meth : Method} {c : Code} {D : va_G} {a n : Nat → Nat} {cA : Nat → ClassId} {A : Nat → Prop}
set_option maxHeartbeats 4000000 in
set_option maxRecDepth 100000 in
theorem lbX2_collect_13 {K : Nat} (X : vzX D (XT cA) A wsX2_collect cX2_collect 4 (some .boolean) RX2 p s m args meth c) : ∀ (N : Nat) (x1 x2 x3 : Int32) (u : XU) (H : Heap) (locs : List Loc) (ls : Array Slot) (r : Int32) (u2 : XU), fX2_collect_13 n K N x1 x2 x3 u = some (r, u2) → va_P D vwCl (XW a n cA u) H → va_D A (XW a n cA u) → va_S A s.heap H locs → lv_has ls 4 [(0, .ref (a 0)), (1, .int x1), (2, .int x2), (3, .int x3)] → W p l e (headSpec wsX2_collect rmX2_collect).room s m args below meth c H locs 0 0 (MQ below (vzQ D (XT cA) (XW a n cA) A r u2) args s 0 0 A) (F0 m 13 ls []) := by
  obtain ⟨hx, hb, hr, hml, hown, hts, hlk, hN, hK, hA⟩ := id X
  intro N
  induction N with
  | zero =>
    intro x1 x2 x3 u H locs ls r u2 hf
    cases hf
  | succ N ih =>
    intro x1 x2 x3 u H locs ls r u2 hf hP hD hS hl
    rw [fX2_collect_13] at hf
    refine lv_iload_n hx hb dX2_collect_13 rfl (lv_at hl 3 rfl) ?_
    refine lv_iload_n hx hb dX2_collect_14 rfl (lv_at hl 2 rfl) ?_
    refine lv_iconst (v := zI 4) hx hb dX2_collect_15 (by decide) ?_
    refine lv_iadd hx hb dX2_collect_16 ?_
    refine lv_icmp_ge (tgt := 80) hx hb dX2_collect_17 (by decide) (fun c2 => ?_) (fun c2 => ?_)
    · have hf := ift c2 hf
      refine lv_aload_n hx hb dX2_collect_80 rfl (lv_at hl 0 rfl) ?_
      refine va_get (D := D) (ci := 2) (v := .ref (a 1)) (C := RX2) (T := TX2) (N := 4) hx hb hts in_X2_collect_X2 hown hK hP 0 rfl rfl 0 (by decide) (hts _ (List.mem_of_getElem? (i := 1) rfl)) (fun _ h9 => h9) rfl dX2_collect_81 ?_
      refine lv_iload_n hx hb dX2_collect_84 rfl (lv_at hl 1 rfl) ?_
      obtain ⟨z3, hz4, hf⟩ := bd hf
      refine vz_call (rest := []) X (kX1_erase hz4) (cwV 1 hts gX2_collect_X1_erase rfl rfl rfl (by decide +kernel) ⟨Nat.le_of_ble_eq_true rfl, Nat.le_of_ble_eq_true rfl⟩) 1 1 rfl rfl rfl hl.1 rfl (Nat.le_of_ble_eq_true rfl) dX2_collect_85 ⟨Nat.zero_le _, Nat.zero_le _⟩ hP hD hS (fun H locs hP hD hS => ?_)
      obtain ⟨z5, hf⟩ := vbs hf
      cases hf
      exact vz_zret X z5 hP hD hS dX2_collect_88
    · have hf := iff_ c2 hf
      refine lv_aload_n hx hb dX2_collect_20 rfl (lv_at hl 0 rfl) ?_
      refine va_get (D := D) (ci := 2) (v := .ref (a 1)) (C := RX2) (T := TX2) (N := 4) hx hb hts in_X2_collect_X2 hown hK hP 0 rfl rfl 0 (by decide) (hts _ (List.mem_of_getElem? (i := 1) rfl)) (fun _ h9 => h9) rfl dX2_collect_21 ?_
      refine lv_iload_n hx hb dX2_collect_24 rfl (lv_at hl 3 rfl) ?_
      obtain ⟨z6, hz7, hf⟩ := bd hf
      refine vz_call (rest := []) X (kX1_isValid hz7) (cwV 1 hts gX2_collect_X1_isValid rfl rfl rfl (by decide +kernel) ⟨Nat.le_of_ble_eq_true rfl, Nat.le_of_ble_eq_true rfl⟩) 1 1 rfl rfl rfl hl.1 rfl (Nat.le_of_ble_eq_true rfl) dX2_collect_25 ⟨Nat.zero_le _, Nat.zero_le _⟩ hP hD hS (fun H locs hP hD hS => ?_)
      refine lv_if_eq (tgt := 74) hx hb dX2_collect_28 (by decide) (fun c8 => ?_) (fun c8 => ?_)
      · have hf := ift c8 hf
        refine lv_iinc (v := x3 + (zI 1)) (lv' := [(3, .int (x3 + (zI 1))), (0, .ref (a 0)), (1, .int x1), (2, .int x2)]) hx hb dX2_collect_74 hl (k := 3) rfl rfl (by decide) rfl (fun ls hl => ?_)
        refine lv_goto (tgt := 13) hx hb dX2_collect_77 (by decide) ?_
        exact ih x1 x2 (x3 + (zI 1)) z6.2 _ _ _ _ _ hf hP hD hS (lv_sub hl [1, 2, 3, 0] rfl)
      · have hf := iff_ c8 hf
        refine lv_aload_n hx hb dX2_collect_31 rfl (lv_at hl 0 rfl) ?_
        refine va_get (D := D) (ci := 2) (v := .ref (a 1)) (C := RX2) (T := TX2) (N := 4) hx hb hts in_X2_collect_X2 hown hK hP 0 rfl rfl 0 (by decide) (hts _ (List.mem_of_getElem? (i := 1) rfl)) (fun _ h9 => h9) rfl dX2_collect_32 ?_
        refine lv_aload_n hx hb dX2_collect_35 rfl (lv_at hl 0 rfl) ?_
        refine va_get (D := D) (ci := 2) (v := .int (xu_opn z6.2)) (C := RX2) (T := TX2) (N := 4) hx hb hts in_X2_collect_X2 hown hK hP 0 rfl rfl 3 (by decide) (hts _ (List.mem_of_getElem? (i := 2) rfl)) (fun _ h9 => h9) rfl dX2_collect_36 ?_
        refine lv_aload_n hx hb dX2_collect_39 rfl (lv_at hl 0 rfl) ?_
        refine va_get (D := D) (ci := 2) (v := .ref (a 1)) (C := RX2) (T := TX2) (N := 4) hx hb hts in_X2_collect_X2 hown hK hP 0 rfl rfl 0 (by decide) (hts _ (List.mem_of_getElem? (i := 1) rfl)) (fun _ h9 => h9) rfl dX2_collect_40 ?_
        refine va_getN (D := D) (ci := 1) (v := .ref (a 3)) (C := RX1) (T := TX1) (N := 11) hx hb hts in_X2_collect_X1 hown hK hP 1 rfl rfl 1 (by decide) (hN.at 0 rfl) (fun _ h9 => h9) rfl dX2_collect_43 ?_
        refine lv_iload_n hx hb dX2_collect_46 rfl (lv_at hl 3 rfl) ?_
        obtain ⟨g9, hf⟩ := vgs hf
        refine va_iald hx hb hK hP 3 0 rfl rfl g9 dX2_collect_47 ?_
        refine lv_aload_n hx hb dX2_collect_48 rfl (lv_at hl 0 rfl) ?_
        refine va_get (D := D) (ci := 2) (v := .ref (a 1)) (C := RX2) (T := TX2) (N := 4) hx hb hts in_X2_collect_X2 hown hK hP 0 rfl rfl 0 (by decide) (hts _ (List.mem_of_getElem? (i := 1) rfl)) (fun _ h9 => h9) rfl dX2_collect_49 ?_
        refine va_getN (D := D) (ci := 1) (v := .ref (a 4)) (C := RX1) (T := TX1) (N := 11) hx hb hts in_X2_collect_X1 hown hK hP 1 rfl rfl 2 (by decide) (hN.at 1 rfl) (fun _ h9 => h9) rfl dX2_collect_52 ?_
        refine lv_iload_n hx hb dX2_collect_55 rfl (lv_at hl 3 rfl) ?_
        obtain ⟨g10, hf⟩ := vgs hf
        refine va_iald hx hb hK hP 4 1 rfl rfl g10 dX2_collect_56 ?_
        refine lv_aload_n hx hb dX2_collect_57 rfl (lv_at hl 0 rfl) ?_
        refine va_get (D := D) (ci := 2) (v := .ref (a 1)) (C := RX2) (T := TX2) (N := 4) hx hb hts in_X2_collect_X2 hown hK hP 0 rfl rfl 0 (by decide) (hts _ (List.mem_of_getElem? (i := 1) rfl)) (fun _ h9 => h9) rfl dX2_collect_58 ?_
        refine va_getN (D := D) (ci := 1) (v := .ref (a 5)) (C := RX1) (T := TX1) (N := 11) hx hb hts in_X2_collect_X1 hown hK hP 1 rfl rfl 3 (by decide) (hN.at 2 rfl) (fun _ h9 => h9) rfl dX2_collect_61 ?_
        refine lv_iload_n hx hb dX2_collect_64 rfl (lv_at hl 3 rfl) ?_
        obtain ⟨g11, hf⟩ := vgs hf
        refine va_iald hx hb hK hP 5 2 rfl rfl g11 dX2_collect_65 ?_
        obtain ⟨z12, hz13, hf⟩ := bd hf
        refine vz_call (rest := []) X (kX1_program hz13) (cwV 4 hts gX2_collect_X1_program rfl rfl rfl (by decide +kernel) ⟨Nat.le_of_ble_eq_true rfl, Nat.le_of_ble_eq_true rfl⟩) 1 1 rfl rfl rfl hl.1 rfl (Nat.le_of_ble_eq_true rfl) dX2_collect_66 ⟨Nat.zero_le _, Nat.zero_le _⟩ hP hD hS (fun H locs hP hD hS => ?_)
        refine lv_if_ne (tgt := 74) hx hb dX2_collect_69 (by decide) (fun c14 => ?_) (fun c14 => ?_)
        · have hf := iff_ c14 hf
          refine lv_iinc (v := x3 + (zI 1)) (lv' := [(3, .int (x3 + (zI 1))), (0, .ref (a 0)), (1, .int x1), (2, .int x2)]) hx hb dX2_collect_74 hl (k := 3) rfl rfl (by decide) rfl (fun ls hl => ?_)
          refine lv_goto (tgt := 13) hx hb dX2_collect_77 (by decide) ?_
          exact ih x1 x2 (x3 + (zI 1)) z12.2 _ _ _ _ _ hf hP hD hS (lv_sub hl [1, 2, 3, 0] rfl)
        · have hf := ift c14 hf
          refine lv_iconst (v := zI 0) hx hb dX2_collect_72 (by decide) ?_
          cases hf
          exact vz_zret X rfl hP hD hS dX2_collect_73
set_option maxHeartbeats 4000000 in
set_option maxRecDepth 100000 in
theorem lbX2_collect_e {K : Nat} (X : vzX D (XT cA) A wsX2_collect cX2_collect 4 (some .boolean) RX2 p s m args meth c) : ∀ (x1 : Int32) (u : XU) (H : Heap) (locs : List Loc) (ls : Array Slot) (r : Int32) (u2 : XU), fX2_collect n K x1 u = some (r, u2) → va_P D vwCl (XW a n cA u) H → va_D A (XW a n cA u) → va_S A s.heap H locs → lv_has ls 4 [(0, .ref (a 0)), (1, .int x1)] → W p l e (headSpec wsX2_collect rmX2_collect).room s m args below meth c H locs 0 0 (MQ below (vzQ D (XT cA) (XW a n cA) A r u2) args s 0 0 A) (F0 m 0 ls []) := by
  obtain ⟨hx, hb, hr, hml, hown, hts, hlk, hN, hK, hA⟩ := id X
  intro x1 u H locs ls r u2 hf hP hD hS hl
  unfold fX2_collect at hf
  refine lv_iload_n hx hb dX2_collect_0 rfl (lv_at hl 1 rfl) ?_
  refine lv_iconst (v := zI (-1)) hx hb dX2_collect_1 (by decide) ?_
  refine lv_icmp_ne (tgt := 7) hx hb dX2_collect_2 (by decide) (fun c1 => ?_) (fun c1 => ?_)
  · have hf := iff_ c1 hf
    refine lv_iload_n hx hb dX2_collect_7 rfl (lv_at hl 1 rfl) ?_
    refine lv_iconst (v := zI 4) hx hb dX2_collect_8 (by decide) ?_
    refine lv_imul hx hb dX2_collect_9 ?_
    refine lv_istore_n (lv' := [(2, .int (x1 * (zI 4))), (0, .ref (a 0)), (1, .int x1)]) hx hb dX2_collect_10 rfl hl (by decide) rfl (fun ls hl => ?_)
    refine lv_iload_n hx hb dX2_collect_11 rfl (lv_at hl 0 rfl) ?_
    refine lv_istore_n (lv' := [(3, .int (x1 * (zI 4))), (2, .int (x1 * (zI 4))), (0, .ref (a 0)), (1, .int x1)]) hx hb dX2_collect_12 rfl hl (by decide) rfl (fun ls hl => ?_)
    exact lbX2_collect_13 X K x1 (x1 * (zI 4)) (x1 * (zI 4)) u _ _ _ _ _ hf hP hD hS (lv_sub hl [2, 3, 1, 0] rfl)
  · have hf := ift c1 hf
    refine lv_iconst (v := zI 0) hx hb dX2_collect_5 (by decide) ?_
    cases hf
    exact vz_zret X rfl hP hD hS dX2_collect_6
end
theorem kX2_collect {l : Launch} {D : va_G} {a n : Nat → Nat} {cA : Nat → ClassId} {K : Nat} {x1 : Int32} {u : XU} {r : Int32} {u2 : XU} (h : fX2_collect n K x1 u = some (r, u2)) : vzC l D (XT cA) (XW a n cA) yX2_collect wsX2_collect rmX2_collect [.ref (a 0), .int x1] u r u2 := vzC.of (by decide) rfl (Nat.le_of_ble_eq_true rfl) (fun p e s m below meth c A ls X hP hD hl => lbX2_collect_e X x1 u s.heap [] ls r u2 h hP hD va_S.rf hl)
abbrev rmX2_makeRoom : Room := { frames := 3, cells := 0, slots := 0, locals := 71 }
theorem in_X2_makeRoom_X2 : ∀ w ∈ u_ws RX2 TX2 4, w ∈ wsX2_makeRoom := fun _ h => List.mem_cons_of_mem _ (List.mem_append_left _ (List.mem_append_right _ h))
theorem in_X2_makeRoom_X1 : ∀ w ∈ u_ws RX1 TX1 11, w ∈ wsX2_makeRoom := fun _ h => List.mem_cons_of_mem _ (List.mem_append_right _ h)
def fX2_makeRoom_4 (n : Nat → Nat) (K : Nat) : Nat → Int32 → Int32 → XU → Option (Int32 × XU)
  | 0, _, _, _ => none
  | N + 1, x1, x2, u => if (zI 100) ≤ x2 then (some (zI 1, u)) else ((fX1_hasRoom n K (xu_opn u) u).bind fun z2 => (if z2.1 = 0 then ((fX1_countFree n K z2.2).bind fun z5 => (if (zI 2) ≤ z5.1 then ((fX1_leastWornFree n K z5.2).bind fun z8 => (fX2_makeRoom_4 n K N x1 (x2 + (zI 1)) (xu_s_opn z8.2 z8.1))) else ((fX1_leastWornFree n K z5.2).bind fun z11 => (if x1 = 0 then ((fX1_wearGap n K (xu_s_opn z11.2 z11.1)).bind fun z21 => (if z21.1 ≤ (xu_spr z21.2) then ((fX1_victim n K (zI 0) z21.2).bind fun z26 => ((fX2_collect n K z26.1 z26.2).bind fun z28 => (if z28.1 = 0 then (some (zI 0, z28.2)) else (fX2_makeRoom_4 n K N (zI 0) (x2 + (zI 1)) z28.2)))) else ((fX1_victim n K (zI 1) z21.2).bind fun z33 => ((fX2_collect n K z33.1 z33.2).bind fun z35 => (if z35.1 = 0 then (some (zI 0, z35.2)) else (fX2_makeRoom_4 n K N (zI 1) (x2 + (zI 1)) z35.2)))))) else ((fX1_victim n K (zI 0) (xu_s_opn z11.2 z11.1)).bind fun z16 => ((fX2_collect n K z16.1 z16.2).bind fun z18 => (if z18.1 = 0 then (some (zI 0, z18.2)) else (fX2_makeRoom_4 n K N (zI 1) (x2 + (zI 1)) z18.2)))))))) else (some (zI 1, z2.2))))
def fX2_makeRoom (n : Nat → Nat) (K : Nat) (u : XU) : Option (Int32 × XU) := fX2_makeRoom_4 n K K (zI 0) (zI 0) u
section
variable {p : Program} {l : Launch} {e : Env} {s : State} {m : MethodId} {args : Array Value} {below : List Frame} {meth : Method} {c : Code} {D : va_G} {a n : Nat → Nat} {cA : Nat → ClassId} {A : Nat → Prop}
set_option maxHeartbeats 4000000 in
set_option maxRecDepth 100000 in
theorem lbX2_makeRoom_4 {K : Nat} (X : vzX D (XT cA) A wsX2_makeRoom cX2_makeRoom 5 (some .boolean) RX2 p s m args meth c) : ∀ (N : Nat) (x1 x2 : Int32) (u : XU) (H : Heap) (locs : List Loc) (ls : Array Slot) (r : Int32) (u2 : XU), fX2_makeRoom_4 n K N x1 x2 u = some (r, u2) → va_P D vwCl (XW a n cA u) H → va_D A (XW a n cA u) → va_S A s.heap H locs → lv_has ls 5 [(0, .ref (a 0)), (1, .int x1), (2, .int x2)] → W p l e (headSpec wsX2_makeRoom rmX2_makeRoom).room s m args below meth c H locs 0 0 (MQ below (vzQ D (XT cA) (XW a n cA) A r u2) args s 0 0 A) (F0 m 4 ls []) := by
  obtain ⟨hx, hb, hr, hml, hown, hts, hlk, hN, hK, hA⟩ := id X
  intro N
  induction N with
  | zero =>
    intro x1 x2 u H locs ls r u2 hf
    cases hf
  | succ N ih =>
    intro x1 x2 u H locs ls r u2 hf hP hD hS hl
    rw [fX2_makeRoom_4] at hf
    refine lv_iload_n hx hb dX2_makeRoom_4 rfl (lv_at hl 2 rfl) ?_
    refine lv_bipush (v := zI 100) hx hb dX2_makeRoom_5 (by decide) ?_
    refine lv_icmp_ge (tgt := 120) hx hb dX2_makeRoom_7 (by decide) (fun c1 => ?_) (fun c1 => ?_)
    · have hf := ift c1 hf
      refine lv_iconst (v := zI 1) hx hb dX2_makeRoom_120 (by decide) ?_
      cases hf
      exact vz_zret X rfl hP hD hS dX2_makeRoom_121
    · have hf := iff_ c1 hf
      refine lv_aload_n hx hb dX2_makeRoom_10 rfl (lv_at hl 0 rfl) ?_
      refine va_get (D := D) (ci := 2) (v := .ref (a 1)) (C := RX2) (T := TX2) (N := 4) hx hb hts in_X2_makeRoom_X2 hown hK hP 0 rfl rfl 0 (by decide) (hts _ (List.mem_of_getElem? (i := 1) rfl)) (fun _ h9 => h9) rfl dX2_makeRoom_11 ?_
      refine lv_aload_n hx hb dX2_makeRoom_14 rfl (lv_at hl 0 rfl) ?_
      refine va_get (D := D) (ci := 2) (v := .int (xu_opn u)) (C := RX2) (T := TX2) (N := 4) hx hb hts in_X2_makeRoom_X2 hown hK hP 0 rfl rfl 3 (by decide) (hts _ (List.mem_of_getElem? (i := 2) rfl)) (fun _ h9 => h9) rfl dX2_makeRoom_15 ?_
      obtain ⟨z2, hz3, hf⟩ := bd hf
      refine vz_call (rest := []) X (kX1_hasRoom hz3) (cwV 1 hts gX2_makeRoom_X1_hasRoom rfl rfl rfl (by decide +kernel) ⟨Nat.le_of_ble_eq_true rfl, Nat.le_of_ble_eq_true rfl⟩) 1 1 rfl rfl rfl hl.1 rfl (Nat.le_of_ble_eq_true rfl) dX2_makeRoom_18 ⟨Nat.zero_le _, Nat.zero_le _⟩ hP hD hS (fun H locs hP hD hS => ?_)
      refine lv_if_ne (tgt := 120) hx hb dX2_makeRoom_21 (by decide) (fun c4 => ?_) (fun c4 => ?_)
      · have hf := iff_ c4 hf
        refine lv_iconst (v := zI 1) hx hb dX2_makeRoom_120 (by decide) ?_
        cases hf
        exact vz_zret X rfl hP hD hS dX2_makeRoom_121
      · have hf := ift c4 hf
        refine lv_aload_n hx hb dX2_makeRoom_24 rfl (lv_at hl 0 rfl) ?_
        refine va_get (D := D) (ci := 2) (v := .ref (a 1)) (C := RX2) (T := TX2) (N := 4) hx hb hts in_X2_makeRoom_X2 hown hK hP 0 rfl rfl 0 (by decide) (hts _ (List.mem_of_getElem? (i := 1) rfl)) (fun _ h9 => h9) rfl dX2_makeRoom_25 ?_
        obtain ⟨z5, hz6, hf⟩ := bd hf
        refine vz_call (rest := []) X (kX1_countFree hz6) (cwV 0 hts gX2_makeRoom_X1_countFree rfl rfl rfl (by decide +kernel) ⟨Nat.le_of_ble_eq_true rfl, Nat.le_of_ble_eq_true rfl⟩) 1 1 rfl rfl rfl hl.1 rfl (Nat.le_of_ble_eq_true rfl) dX2_makeRoom_28 ⟨Nat.zero_le _, Nat.zero_le _⟩ hP hD hS (fun H locs hP hD hS => ?_)
        refine lv_iconst (v := zI 2) hx hb dX2_makeRoom_31 (by decide) ?_
        refine lv_icmp_ge (tgt := 39) hx hb dX2_makeRoom_32 (by decide) (fun c7 => ?_) (fun c7 => ?_)
        · have hf := ift c7 hf
          refine lv_iconst (v := zI 0) hx hb dX2_makeRoom_39 (by decide) ?_
          refine lv_istore_n (lv' := [(3, .int (zI 0)), (0, .ref (a 0)), (1, .int x1), (2, .int x2)]) hx hb dX2_makeRoom_40 rfl hl (by decide) rfl (fun ls hl => ?_)
          refine lv_aload_n hx hb dX2_makeRoom_41 rfl (lv_at hl 1 rfl) ?_
          refine lv_aload_n hx hb dX2_makeRoom_42 rfl (lv_at hl 1 rfl) ?_
          refine va_get (D := D) (ci := 2) (v := .ref (a 1)) (C := RX2) (T := TX2) (N := 4) hx hb hts in_X2_makeRoom_X2 hown hK hP 0 rfl rfl 0 (by decide) (hts _ (List.mem_of_getElem? (i := 1) rfl)) (fun _ h9 => h9) rfl dX2_makeRoom_43 ?_
          obtain ⟨z8, hz9, hf⟩ := bd hf
          refine vz_call (rest := [.ref (a 0)]) X (kX1_leastWornFree hz9) (cwV 0 hts gX2_makeRoom_X1_leastWornFree rfl rfl rfl (by decide +kernel) ⟨Nat.le_of_ble_eq_true rfl, Nat.le_of_ble_eq_true rfl⟩) 1 1 rfl rfl rfl hl.1 rfl (Nat.le_of_ble_eq_true rfl) dX2_makeRoom_46 ⟨Nat.zero_le _, Nat.zero_le _⟩ hP hD hS (fun H locs hP hD hS => ?_)
          refine va_put (D := D) (ci := 2) (v := .int z8.1) (ty := .int) (C := RX2) (T := TX2) (N := 4) hx hb hts in_X2_makeRoom_X2 tyX2 tyX2_ok nmX2 hown hK hP hD hS 0 rfl rfl 3 (by decide) (hts _ (List.mem_of_getElem? (i := 2) rfl)) (fun _ h9 => h9) rfl (by decide +kernel) rfl rfl (Nat.le_of_ble_eq_true rfl) dX2_makeRoom_49 (fun H locs hP hD hS => ?_)
          have hP : va_P D vwCl (XW a n cA (xu_s_opn z8.2 z8.1)) H := hP
          have hD : va_D A (XW a n cA (xu_s_opn z8.2 z8.1)) := hD
          refine lv_iload_n hx hb dX2_makeRoom_52 rfl (lv_at hl 0 rfl) ?_
          refine lv_if_eq (tgt := 114) hx hb dX2_makeRoom_53 (by decide) (fun c10 => ?_) (fun c10 => absurd (by decide) c10)
          refine lv_iinc (v := x2 + (zI 1)) (lv' := [(2, .int (x2 + (zI 1))), (3, .int (zI 0)), (0, .ref (a 0)), (1, .int x1)]) hx hb dX2_makeRoom_114 hl (k := 3) rfl rfl (by decide) rfl (fun ls hl => ?_)
          refine lv_goto (tgt := 4) hx hb dX2_makeRoom_117 (by decide) ?_
          exact ih x1 (x2 + (zI 1)) (xu_s_opn z8.2 z8.1) _ _ _ _ _ hf hP hD hS (lv_sub hl [2, 3, 0] rfl)
        · have hf := iff_ c7 hf
          refine lv_iconst (v := zI 1) hx hb dX2_makeRoom_35 (by decide) ?_
          refine lv_goto (tgt := 40) hx hb dX2_makeRoom_36 (by decide) ?_
          refine lv_istore_n (lv' := [(3, .int (zI 1)), (0, .ref (a 0)), (1, .int x1), (2, .int x2)]) hx hb dX2_makeRoom_40 rfl hl (by decide) rfl (fun ls hl => ?_)
          refine lv_aload_n hx hb dX2_makeRoom_41 rfl (lv_at hl 1 rfl) ?_
          refine lv_aload_n hx hb dX2_makeRoom_42 rfl (lv_at hl 1 rfl) ?_
          refine va_get (D := D) (ci := 2) (v := .ref (a 1)) (C := RX2) (T := TX2) (N := 4) hx hb hts in_X2_makeRoom_X2 hown hK hP 0 rfl rfl 0 (by decide) (hts _ (List.mem_of_getElem? (i := 1) rfl)) (fun _ h9 => h9) rfl dX2_makeRoom_43 ?_
          obtain ⟨z11, hz12, hf⟩ := bd hf
          refine vz_call (rest := [.ref (a 0)]) X (kX1_leastWornFree hz12) (cwV 0 hts gX2_makeRoom_X1_leastWornFree rfl rfl rfl (by decide +kernel) ⟨Nat.le_of_ble_eq_true rfl, Nat.le_of_ble_eq_true rfl⟩) 1 1 rfl rfl rfl hl.1 rfl (Nat.le_of_ble_eq_true rfl) dX2_makeRoom_46 ⟨Nat.zero_le _, Nat.zero_le _⟩ hP hD hS (fun H locs hP hD hS => ?_)
          refine va_put (D := D) (ci := 2) (v := .int z11.1) (ty := .int) (C := RX2) (T := TX2) (N := 4) hx hb hts in_X2_makeRoom_X2 tyX2 tyX2_ok nmX2 hown hK hP hD hS 0 rfl rfl 3 (by decide) (hts _ (List.mem_of_getElem? (i := 2) rfl)) (fun _ h9 => h9) rfl (by decide +kernel) rfl rfl (Nat.le_of_ble_eq_true rfl) dX2_makeRoom_49 (fun H locs hP hD hS => ?_)
          have hP : va_P D vwCl (XW a n cA (xu_s_opn z11.2 z11.1)) H := hP
          have hD : va_D A (XW a n cA (xu_s_opn z11.2 z11.1)) := hD
          refine lv_iload_n hx hb dX2_makeRoom_52 rfl (lv_at hl 0 rfl) ?_
          refine lv_if_eq (tgt := 114) hx hb dX2_makeRoom_53 (by decide) (fun c13 => absurd c13 (by decide)) (fun c13 => ?_)
          refine lv_iload_n hx hb dX2_makeRoom_56 rfl (lv_at hl 2 rfl) ?_
          refine lv_if_ne (tgt := 78) hx hb dX2_makeRoom_57 (by decide) (fun c14 => ?_) (fun c14 => ?_)
          · have hf := iff_ c14 hf
            refine lv_iconst (v := zI 0) hx hb dX2_makeRoom_78 (by decide) ?_
            refine lv_istore (lv' := [(4, .int (zI 0)), (3, .int (zI 1)), (0, .ref (a 0)), (1, .int x1), (2, .int x2)]) hx hb dX2_makeRoom_79 hl (by decide) rfl (fun ls hl => ?_)
            refine lv_iload_n hx hb dX2_makeRoom_81 rfl (lv_at hl 3 rfl) ?_
            refine lv_if_ne (tgt := 90) hx hb dX2_makeRoom_82 (by decide) (fun c15 => ?_) (fun c15 => absurd c15 c14)
            refine lv_iconst (v := zI 1) hx hb dX2_makeRoom_90 (by decide) ?_
            refine lv_goto (tgt := 95) hx hb dX2_makeRoom_91 (by decide) ?_
            refine lv_istore_n (lv' := [(1, .int (zI 1)), (4, .int (zI 0)), (3, .int (zI 1)), (0, .ref (a 0)), (2, .int x2)]) hx hb dX2_makeRoom_95 rfl hl (by decide) rfl (fun ls hl => ?_)
            refine lv_aload_n hx hb dX2_makeRoom_96 rfl (lv_at hl 3 rfl) ?_
            refine lv_aload_n hx hb dX2_makeRoom_97 rfl (lv_at hl 3 rfl) ?_
            refine va_get (D := D) (ci := 2) (v := .ref (a 1)) (C := RX2) (T := TX2) (N := 4) hx hb hts in_X2_makeRoom_X2 hown hK hP 0 rfl rfl 0 (by decide) (hts _ (List.mem_of_getElem? (i := 1) rfl)) (fun _ h9 => h9) rfl dX2_makeRoom_98 ?_
            refine lv_iload hx hb dX2_makeRoom_101 (lv_at hl 1 rfl) ?_
            obtain ⟨z16, hz17, hf⟩ := bd hf
            refine vz_call (rest := [.ref (a 0)]) X (kX1_victim hz17) (cwV 1 hts gX2_makeRoom_X1_victim rfl rfl rfl (by decide +kernel) ⟨Nat.le_of_ble_eq_true rfl, Nat.le_of_ble_eq_true rfl⟩) 1 1 rfl rfl rfl hl.1 rfl (Nat.le_of_ble_eq_true rfl) dX2_makeRoom_103 ⟨Nat.zero_le _, Nat.zero_le _⟩ hP hD hS (fun H locs hP hD hS => ?_)
            obtain ⟨z18, hz19, hf⟩ := bd hf
            refine vz_call (rest := []) X (kX2_collect hz19) (cwV 1 hts gX2_makeRoom_X2_collect rfl rfl rfl (by decide +kernel) ⟨Nat.le_of_ble_eq_true rfl, Nat.le_of_ble_eq_true rfl⟩) 0 2 rfl rfl rfl hl.1 rfl (Nat.le_of_ble_eq_true rfl) dX2_makeRoom_106 ⟨Nat.zero_le _, Nat.zero_le _⟩ hP hD hS (fun H locs hP hD hS => ?_)
            refine lv_if_ne (tgt := 114) hx hb dX2_makeRoom_109 (by decide) (fun c20 => ?_) (fun c20 => ?_)
            · have hf := iff_ c20 hf
              refine lv_iinc (v := x2 + (zI 1)) (lv' := [(2, .int (x2 + (zI 1))), (1, .int (zI 1)), (4, .int (zI 0)), (3, .int (zI 1)), (0, .ref (a 0))]) hx hb dX2_makeRoom_114 hl (k := 4) rfl rfl (by decide) rfl (fun ls hl => ?_)
              refine lv_goto (tgt := 4) hx hb dX2_makeRoom_117 (by decide) ?_
              exact ih (zI 1) (x2 + (zI 1)) z18.2 _ _ _ _ _ hf hP hD hS (lv_sub hl [4, 1, 0] rfl)
            · have hf := ift c20 hf
              refine lv_iconst (v := zI 0) hx hb dX2_makeRoom_112 (by decide) ?_
              cases hf
              exact vz_zret X rfl hP hD hS dX2_makeRoom_113
          · have hf := ift c14 hf
            refine lv_aload_n hx hb dX2_makeRoom_60 rfl (lv_at hl 1 rfl) ?_
            refine va_get (D := D) (ci := 2) (v := .ref (a 1)) (C := RX2) (T := TX2) (N := 4) hx hb hts in_X2_makeRoom_X2 hown hK hP 0 rfl rfl 0 (by decide) (hts _ (List.mem_of_getElem? (i := 1) rfl)) (fun _ h9 => h9) rfl dX2_makeRoom_61 ?_
            obtain ⟨z21, hz22, hf⟩ := bd hf
            refine vz_call (rest := []) X (kX1_wearGap hz22) (cwV 0 hts gX2_makeRoom_X1_wearGap rfl rfl rfl (by decide +kernel) ⟨Nat.le_of_ble_eq_true rfl, Nat.le_of_ble_eq_true rfl⟩) 1 1 rfl rfl rfl hl.1 rfl (Nat.le_of_ble_eq_true rfl) dX2_makeRoom_64 ⟨Nat.zero_le _, Nat.zero_le _⟩ hP hD hS (fun H locs hP hD hS => ?_)
            refine lv_aload_n hx hb dX2_makeRoom_67 rfl (lv_at hl 1 rfl) ?_
            refine va_get (D := D) (ci := 2) (v := .int (xu_spr z21.2)) (C := RX2) (T := TX2) (N := 4) hx hb hts in_X2_makeRoom_X2 hown hK hP 0 rfl rfl 2 (by decide) (hts _ (List.mem_of_getElem? (i := 3) rfl)) (fun _ h9 => h9) rfl dX2_makeRoom_68 ?_
            refine lv_icmp_le (tgt := 78) hx hb dX2_makeRoom_71 (by decide) (fun c23 => ?_) (fun c23 => ?_)
            · have hf := ift c23 hf
              refine lv_iconst (v := zI 0) hx hb dX2_makeRoom_78 (by decide) ?_
              refine lv_istore (lv' := [(4, .int (zI 0)), (3, .int (zI 1)), (0, .ref (a 0)), (1, .int x1), (2, .int x2)]) hx hb dX2_makeRoom_79 hl (by decide) rfl (fun ls hl => ?_)
              refine lv_iload_n hx hb dX2_makeRoom_81 rfl (lv_at hl 3 rfl) ?_
              refine lv_if_ne (tgt := 90) hx hb dX2_makeRoom_82 (by decide) (fun c24 => absurd c14 c24) (fun c24 => ?_)
              refine lv_iload hx hb dX2_makeRoom_85 (lv_at hl 0 rfl) ?_
              refine lv_if_eq (tgt := 94) hx hb dX2_makeRoom_87 (by decide) (fun c25 => ?_) (fun c25 => absurd (by decide) c25)
              refine lv_iconst (v := zI 0) hx hb dX2_makeRoom_94 (by decide) ?_
              refine lv_istore_n (lv' := [(1, .int (zI 0)), (4, .int (zI 0)), (3, .int (zI 1)), (0, .ref (a 0)), (2, .int x2)]) hx hb dX2_makeRoom_95 rfl hl (by decide) rfl (fun ls hl => ?_)
              refine lv_aload_n hx hb dX2_makeRoom_96 rfl (lv_at hl 3 rfl) ?_
              refine lv_aload_n hx hb dX2_makeRoom_97 rfl (lv_at hl 3 rfl) ?_
              refine va_get (D := D) (ci := 2) (v := .ref (a 1)) (C := RX2) (T := TX2) (N := 4) hx hb hts in_X2_makeRoom_X2 hown hK hP 0 rfl rfl 0 (by decide) (hts _ (List.mem_of_getElem? (i := 1) rfl)) (fun _ h9 => h9) rfl dX2_makeRoom_98 ?_
              refine lv_iload hx hb dX2_makeRoom_101 (lv_at hl 1 rfl) ?_
              obtain ⟨z26, hz27, hf⟩ := bd hf
              refine vz_call (rest := [.ref (a 0)]) X (kX1_victim hz27) (cwV 1 hts gX2_makeRoom_X1_victim rfl rfl rfl (by decide +kernel) ⟨Nat.le_of_ble_eq_true rfl, Nat.le_of_ble_eq_true rfl⟩) 1 1 rfl rfl rfl hl.1 rfl (Nat.le_of_ble_eq_true rfl) dX2_makeRoom_103 ⟨Nat.zero_le _, Nat.zero_le _⟩ hP hD hS (fun H locs hP hD hS => ?_)
              obtain ⟨z28, hz29, hf⟩ := bd hf
              refine vz_call (rest := []) X (kX2_collect hz29) (cwV 1 hts gX2_makeRoom_X2_collect rfl rfl rfl (by decide +kernel) ⟨Nat.le_of_ble_eq_true rfl, Nat.le_of_ble_eq_true rfl⟩) 0 2 rfl rfl rfl hl.1 rfl (Nat.le_of_ble_eq_true rfl) dX2_makeRoom_106 ⟨Nat.zero_le _, Nat.zero_le _⟩ hP hD hS (fun H locs hP hD hS => ?_)
              refine lv_if_ne (tgt := 114) hx hb dX2_makeRoom_109 (by decide) (fun c30 => ?_) (fun c30 => ?_)
              · have hf := iff_ c30 hf
                refine lv_iinc (v := x2 + (zI 1)) (lv' := [(2, .int (x2 + (zI 1))), (1, .int (zI 0)), (4, .int (zI 0)), (3, .int (zI 1)), (0, .ref (a 0))]) hx hb dX2_makeRoom_114 hl (k := 4) rfl rfl (by decide) rfl (fun ls hl => ?_)
                refine lv_goto (tgt := 4) hx hb dX2_makeRoom_117 (by decide) ?_
                exact ih (zI 0) (x2 + (zI 1)) z28.2 _ _ _ _ _ hf hP hD hS (lv_sub hl [4, 1, 0] rfl)
              · have hf := ift c30 hf
                refine lv_iconst (v := zI 0) hx hb dX2_makeRoom_112 (by decide) ?_
                cases hf
                exact vz_zret X rfl hP hD hS dX2_makeRoom_113
            · have hf := iff_ c23 hf
              refine lv_iconst (v := zI 1) hx hb dX2_makeRoom_74 (by decide) ?_
              refine lv_goto (tgt := 79) hx hb dX2_makeRoom_75 (by decide) ?_
              refine lv_istore (lv' := [(4, .int (zI 1)), (3, .int (zI 1)), (0, .ref (a 0)), (1, .int x1), (2, .int x2)]) hx hb dX2_makeRoom_79 hl (by decide) rfl (fun ls hl => ?_)
              refine lv_iload_n hx hb dX2_makeRoom_81 rfl (lv_at hl 3 rfl) ?_
              refine lv_if_ne (tgt := 90) hx hb dX2_makeRoom_82 (by decide) (fun c31 => absurd c14 c31) (fun c31 => ?_)
              refine lv_iload hx hb dX2_makeRoom_85 (lv_at hl 0 rfl) ?_
              refine lv_if_eq (tgt := 94) hx hb dX2_makeRoom_87 (by decide) (fun c32 => absurd c32 (by decide)) (fun c32 => ?_)
              refine lv_iconst (v := zI 1) hx hb dX2_makeRoom_90 (by decide) ?_
              refine lv_goto (tgt := 95) hx hb dX2_makeRoom_91 (by decide) ?_
              refine lv_istore_n (lv' := [(1, .int (zI 1)), (4, .int (zI 1)), (3, .int (zI 1)), (0, .ref (a 0)), (2, .int x2)]) hx hb dX2_makeRoom_95 rfl hl (by decide) rfl (fun ls hl => ?_)
              refine lv_aload_n hx hb dX2_makeRoom_96 rfl (lv_at hl 3 rfl) ?_
              refine lv_aload_n hx hb dX2_makeRoom_97 rfl (lv_at hl 3 rfl) ?_
              refine va_get (D := D) (ci := 2) (v := .ref (a 1)) (C := RX2) (T := TX2) (N := 4) hx hb hts in_X2_makeRoom_X2 hown hK hP 0 rfl rfl 0 (by decide) (hts _ (List.mem_of_getElem? (i := 1) rfl)) (fun _ h9 => h9) rfl dX2_makeRoom_98 ?_
              refine lv_iload hx hb dX2_makeRoom_101 (lv_at hl 1 rfl) ?_
              obtain ⟨z33, hz34, hf⟩ := bd hf
              refine vz_call (rest := [.ref (a 0)]) X (kX1_victim hz34) (cwV 1 hts gX2_makeRoom_X1_victim rfl rfl rfl (by decide +kernel) ⟨Nat.le_of_ble_eq_true rfl, Nat.le_of_ble_eq_true rfl⟩) 1 1 rfl rfl rfl hl.1 rfl (Nat.le_of_ble_eq_true rfl) dX2_makeRoom_103 ⟨Nat.zero_le _, Nat.zero_le _⟩ hP hD hS (fun H locs hP hD hS => ?_)
              obtain ⟨z35, hz36, hf⟩ := bd hf
              refine vz_call (rest := []) X (kX2_collect hz36) (cwV 1 hts gX2_makeRoom_X2_collect rfl rfl rfl (by decide +kernel) ⟨Nat.le_of_ble_eq_true rfl, Nat.le_of_ble_eq_true rfl⟩) 0 2 rfl rfl rfl hl.1 rfl (Nat.le_of_ble_eq_true rfl) dX2_makeRoom_106 ⟨Nat.zero_le _, Nat.zero_le _⟩ hP hD hS (fun H locs hP hD hS => ?_)
              refine lv_if_ne (tgt := 114) hx hb dX2_makeRoom_109 (by decide) (fun c37 => ?_) (fun c37 => ?_)
              · have hf := iff_ c37 hf
                refine lv_iinc (v := x2 + (zI 1)) (lv' := [(2, .int (x2 + (zI 1))), (1, .int (zI 1)), (4, .int (zI 1)), (3, .int (zI 1)), (0, .ref (a 0))]) hx hb dX2_makeRoom_114 hl (k := 4) rfl rfl (by decide) rfl (fun ls hl => ?_)
                refine lv_goto (tgt := 4) hx hb dX2_makeRoom_117 (by decide) ?_
                exact ih (zI 1) (x2 + (zI 1)) z35.2 _ _ _ _ _ hf hP hD hS (lv_sub hl [4, 1, 0] rfl)
              · have hf := ift c37 hf
                refine lv_iconst (v := zI 0) hx hb dX2_makeRoom_112 (by decide) ?_
                cases hf
                exact vz_zret X rfl hP hD hS dX2_makeRoom_113
set_option maxHeartbeats 4000000 in
set_option maxRecDepth 100000 in
theorem lbX2_makeRoom_e {K : Nat} (X : vzX D (XT cA) A wsX2_makeRoom cX2_makeRoom 5 (some .boolean) RX2 p s m args meth c) : ∀ (u : XU) (H : Heap) (locs : List Loc) (ls : Array Slot) (r : Int32) (u2 : XU), fX2_makeRoom n K u = some (r, u2) → va_P D vwCl (XW a n cA u) H → va_D A (XW a n cA u) → va_S A s.heap H locs → lv_has ls 5 [(0, .ref (a 0))] → W p l e (headSpec wsX2_makeRoom rmX2_makeRoom).room s m args below meth c H locs 0 0 (MQ below (vzQ D (XT cA) (XW a n cA) A r u2) args s 0 0 A) (F0 m 0 ls []) := by
  obtain ⟨hx, hb, hr, hml, hown, hts, hlk, hN, hK, hA⟩ := id X
  intro u H locs ls r u2 hf hP hD hS hl
  unfold fX2_makeRoom at hf
  refine lv_iconst (v := zI 0) hx hb dX2_makeRoom_0 (by decide) ?_
  refine lv_istore_n (lv' := [(1, .int (zI 0)), (0, .ref (a 0))]) hx hb dX2_makeRoom_1 rfl hl (by decide) rfl (fun ls hl => ?_)
  refine lv_iconst (v := zI 0) hx hb dX2_makeRoom_2 (by decide) ?_
  refine lv_istore_n (lv' := [(2, .int (zI 0)), (1, .int (zI 0)), (0, .ref (a 0))]) hx hb dX2_makeRoom_3 rfl hl (by decide) rfl (fun ls hl => ?_)
  exact lbX2_makeRoom_4 X K (zI 0) (zI 0) u _ _ _ _ _ hf hP hD hS (lv_sub hl [2, 1, 0] rfl)
end
theorem kX2_makeRoom {l : Launch} {D : va_G} {a n : Nat → Nat} {cA : Nat → ClassId} {K : Nat} {u : XU} {r : Int32} {u2 : XU} (h : fX2_makeRoom n K u = some (r, u2)) : vzC l D (XT cA) (XW a n cA) yX2_makeRoom wsX2_makeRoom rmX2_makeRoom [.ref (a 0)] u r u2 := vzC.of (by decide) rfl (Nat.le_of_ble_eq_true rfl) (fun p e s m below meth c A ls X hP hD hl => lbX2_makeRoom_e X u s.heap [] ls r u2 h hP hD va_S.rf hl)
abbrev rmX2_storeFirst : Room := { frames := 4, cells := 0, slots := 0, locals := 95 }
theorem in_X2_storeFirst_X2 : ∀ w ∈ u_ws RX2 TX2 4, w ∈ wsX2_storeFirst := fun _ h => List.mem_cons_of_mem _ (List.mem_append_left _ (List.mem_append_left _ (List.mem_append_right _ h)))
theorem in_X2_storeFirst_X0 : ∀ w ∈ u_ws RX0 TX0 4, w ∈ wsX2_storeFirst := fun _ h => List.mem_cons_of_mem _ (List.mem_append_left _ (List.mem_append_right _ h))
theorem in_X2_storeFirst_X1 : ∀ w ∈ u_ws RX1 TX1 11, w ∈ wsX2_storeFirst := fun _ h => List.mem_cons_of_mem _ (List.mem_append_right _ h)
def fX2_storeFirst (n : Nat → Nat) (K : Nat) (u : XU) : Option (Int32 × XU) := (fX2_makeRoom n K u).bind fun z1 => (if z1.1 = 0 then (some (zI 0, z1.2)) else (vg (zI 0) (n 10) (vg (zI 0) (n 11) (vg (zI 0) (n 12) ((fX1_program n K (xu_opn z1.2) ((xu_bse z1.2) ((zI 0)).toNatClampNeg) ((xu_bva z1.2) ((zI 0)).toNatClampNeg) ((xu_bki z1.2) ((zI 0)).toNatClampNeg) z1.2).bind fun z7 => (if z7.1 = 0 then (some (zI 0, z7.2)) else ((fX0_dropFirst n K z7.2).bind fun z10 => (some (zI 1, z10)))))))))
section
variable {p : Program} {l : Launch} {e : Env} {s : State} {m : MethodId} {args : Array Value} {below : List Frame} {meth : Method} {c : Code} {D : va_G} {a n : Nat → Nat} {cA : Nat → ClassId} {A : Nat → Prop}
set_option maxHeartbeats 4000000 in
set_option maxRecDepth 100000 in
theorem lbX2_storeFirst_e {K : Nat} (X : vzX D (XT cA) A wsX2_storeFirst cX2_storeFirst 1 (some .boolean) RX2 p s m args meth c) : ∀ (u : XU) (H : Heap) (locs : List Loc) (ls : Array Slot) (r : Int32) (u2 : XU), fX2_storeFirst n K u = some (r, u2) → va_P D vwCl (XW a n cA u) H → va_D A (XW a n cA u) → va_S A s.heap H locs → lv_has ls 1 [(0, .ref (a 0))] → W p l e (headSpec wsX2_storeFirst rmX2_storeFirst).room s m args below meth c H locs 0 0 (MQ below (vzQ D (XT cA) (XW a n cA) A r u2) args s 0 0 A) (F0 m 0 ls []) := by
  obtain ⟨hx, hb, hr, hml, hown, hts, hlk, hN, hK, hA⟩ := id X
  intro u H locs ls r u2 hf hP hD hS hl
  unfold fX2_storeFirst at hf
  refine lv_aload_n hx hb dX2_storeFirst_0 rfl (lv_at hl 0 rfl) ?_
  obtain ⟨z1, hz2, hf⟩ := bd hf
  refine vz_call (rest := []) X (kX2_makeRoom hz2) (cwV 0 hts gX2_storeFirst_X2_makeRoom rfl rfl rfl (by decide +kernel) ⟨Nat.le_of_ble_eq_true rfl, Nat.le_of_ble_eq_true rfl⟩) 0 2 rfl rfl rfl hl.1 rfl (Nat.le_of_ble_eq_true rfl) dX2_storeFirst_1 ⟨Nat.zero_le _, Nat.zero_le _⟩ hP hD hS (fun H locs hP hD hS => ?_)
  refine lv_if_ne (tgt := 9) hx hb dX2_storeFirst_4 (by decide) (fun c3 => ?_) (fun c3 => ?_)
  · have hf := iff_ c3 hf
    refine lv_aload_n hx hb dX2_storeFirst_9 rfl (lv_at hl 0 rfl) ?_
    refine va_get (D := D) (ci := 2) (v := .ref (a 1)) (C := RX2) (T := TX2) (N := 4) hx hb hts in_X2_storeFirst_X2 hown hK hP 0 rfl rfl 0 (by decide) (hts _ (List.mem_of_getElem? (i := 1) rfl)) (fun _ h9 => h9) rfl dX2_storeFirst_10 ?_
    refine lv_aload_n hx hb dX2_storeFirst_13 rfl (lv_at hl 0 rfl) ?_
    refine va_get (D := D) (ci := 2) (v := .int (xu_opn z1.2)) (C := RX2) (T := TX2) (N := 4) hx hb hts in_X2_storeFirst_X2 hown hK hP 0 rfl rfl 3 (by decide) (hts _ (List.mem_of_getElem? (i := 2) rfl)) (fun _ h9 => h9) rfl dX2_storeFirst_14 ?_
    refine lv_aload_n hx hb dX2_storeFirst_17 rfl (lv_at hl 0 rfl) ?_
    refine va_get (D := D) (ci := 2) (v := .ref (a 2)) (C := RX2) (T := TX2) (N := 4) hx hb hts in_X2_storeFirst_X2 hown hK hP 0 rfl rfl 1 (by decide) (hts _ (List.mem_of_getElem? (i := 3) rfl)) (fun _ h9 => h9) rfl dX2_storeFirst_18 ?_
    refine va_getN (D := D) (ci := 0) (v := .ref (a 10)) (C := RX0) (T := TX0) (N := 4) hx hb hts in_X2_storeFirst_X0 hown hK hP 2 rfl rfl 0 (by decide) (hN.at 9 rfl) (fun _ h9 => h9) rfl dX2_storeFirst_21 ?_
    refine lv_iconst (v := zI 0) hx hb dX2_storeFirst_24 (by decide) ?_
    obtain ⟨g4, hf⟩ := vgs hf
    refine va_iald hx hb hK hP 10 7 rfl rfl g4 dX2_storeFirst_25 ?_
    refine lv_aload_n hx hb dX2_storeFirst_26 rfl (lv_at hl 0 rfl) ?_
    refine va_get (D := D) (ci := 2) (v := .ref (a 2)) (C := RX2) (T := TX2) (N := 4) hx hb hts in_X2_storeFirst_X2 hown hK hP 0 rfl rfl 1 (by decide) (hts _ (List.mem_of_getElem? (i := 3) rfl)) (fun _ h9 => h9) rfl dX2_storeFirst_27 ?_
    refine va_getN (D := D) (ci := 0) (v := .ref (a 11)) (C := RX0) (T := TX0) (N := 4) hx hb hts in_X2_storeFirst_X0 hown hK hP 2 rfl rfl 1 (by decide) (hN.at 10 rfl) (fun _ h9 => h9) rfl dX2_storeFirst_30 ?_
    refine lv_iconst (v := zI 0) hx hb dX2_storeFirst_33 (by decide) ?_
    obtain ⟨g5, hf⟩ := vgs hf
    refine va_iald hx hb hK hP 11 8 rfl rfl g5 dX2_storeFirst_34 ?_
    refine lv_aload_n hx hb dX2_storeFirst_35 rfl (lv_at hl 0 rfl) ?_
    refine va_get (D := D) (ci := 2) (v := .ref (a 2)) (C := RX2) (T := TX2) (N := 4) hx hb hts in_X2_storeFirst_X2 hown hK hP 0 rfl rfl 1 (by decide) (hts _ (List.mem_of_getElem? (i := 3) rfl)) (fun _ h9 => h9) rfl dX2_storeFirst_36 ?_
    refine va_getN (D := D) (ci := 0) (v := .ref (a 12)) (C := RX0) (T := TX0) (N := 4) hx hb hts in_X2_storeFirst_X0 hown hK hP 2 rfl rfl 2 (by decide) (hN.at 11 rfl) (fun _ h9 => h9) rfl dX2_storeFirst_39 ?_
    refine lv_iconst (v := zI 0) hx hb dX2_storeFirst_42 (by decide) ?_
    obtain ⟨g6, hf⟩ := vgs hf
    refine va_iald hx hb hK hP 12 9 rfl rfl g6 dX2_storeFirst_43 ?_
    obtain ⟨z7, hz8, hf⟩ := bd hf
    refine vz_call (rest := []) X (kX1_program hz8) (cwV 4 hts gX2_storeFirst_X1_program rfl rfl rfl (by decide +kernel) ⟨Nat.le_of_ble_eq_true rfl, Nat.le_of_ble_eq_true rfl⟩) 1 1 rfl rfl rfl hl.1 rfl (Nat.le_of_ble_eq_true rfl) dX2_storeFirst_44 ⟨Nat.zero_le _, Nat.zero_le _⟩ hP hD hS (fun H locs hP hD hS => ?_)
    refine lv_if_ne (tgt := 52) hx hb dX2_storeFirst_47 (by decide) (fun c9 => ?_) (fun c9 => ?_)
    · have hf := iff_ c9 hf
      refine lv_aload_n hx hb dX2_storeFirst_52 rfl (lv_at hl 0 rfl) ?_
      refine va_get (D := D) (ci := 2) (v := .ref (a 2)) (C := RX2) (T := TX2) (N := 4) hx hb hts in_X2_storeFirst_X2 hown hK hP 0 rfl rfl 1 (by decide) (hts _ (List.mem_of_getElem? (i := 3) rfl)) (fun _ h9 => h9) rfl dX2_storeFirst_53 ?_
      obtain ⟨z10, hz11, hf⟩ := bd hf
      refine vz_callv (rest := []) X (kX0_dropFirst hz11) (cwV 0 hts gX2_storeFirst_X0_dropFirst rfl rfl rfl (by decide +kernel) ⟨Nat.le_of_ble_eq_true rfl, Nat.le_of_ble_eq_true rfl⟩) 2 0 rfl rfl rfl hl.1 rfl (Nat.le_of_ble_eq_true rfl) dX2_storeFirst_56 ⟨Nat.zero_le _, Nat.zero_le _⟩ hP hD hS (fun H locs hP hD hS => ?_)
      refine lv_iconst (v := zI 1) hx hb dX2_storeFirst_59 (by decide) ?_
      cases hf
      exact vz_zret X rfl hP hD hS dX2_storeFirst_60
    · have hf := ift c9 hf
      refine lv_iconst (v := zI 0) hx hb dX2_storeFirst_50 (by decide) ?_
      cases hf
      exact vz_zret X rfl hP hD hS dX2_storeFirst_51
  · have hf := ift c3 hf
    refine lv_iconst (v := zI 0) hx hb dX2_storeFirst_7 (by decide) ?_
    cases hf
    exact vz_zret X rfl hP hD hS dX2_storeFirst_8
end
theorem kX2_storeFirst {l : Launch} {D : va_G} {a n : Nat → Nat} {cA : Nat → ClassId} {K : Nat} {u : XU} {r : Int32} {u2 : XU} (h : fX2_storeFirst n K u = some (r, u2)) : vzC l D (XT cA) (XW a n cA) yX2_storeFirst wsX2_storeFirst rmX2_storeFirst [.ref (a 0)] u r u2 := vzC.of (by decide) rfl (Nat.le_of_ble_eq_true rfl) (fun p e s m below meth c A ls X hP hD hl => lbX2_storeFirst_e X u s.heap [] ls r u2 h hP hD va_S.rf hl)
