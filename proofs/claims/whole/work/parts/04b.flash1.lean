abbrev rmX1_isBlock : Room := { frames := 0, cells := 0, slots := 0, locals := 0 }
theorem in_X1_isBlock_X1 : ∀ w ∈ u_ws RX1 TX1 11, w ∈ wsX1_isBlock := fun _ h => List.mem_cons_of_mem _ (List.mem_append_right _ h)
def fX1_isBlock (n : Nat → Nat) (K : Nat) (x1 : Int32) (u : XU) : Option (Int32 × XU) := if x1 < 0 then (some (zI 0, u)) else (if (xu_blk u) ≤ x1 then (some (zI 0, u)) else (some (zI 1, u)))
section
variable {p : Program} {l : Launch} {e : Env} {s : State} {m : MethodId} {args : Array Value} {below : List Frame} {meth : Method} {c : Code} {D : va_G} {a n : Nat → Nat} {cA : Nat → ClassId} {A : Nat → Prop}
set_option maxHeartbeats 4000000 in
set_option maxRecDepth 100000 in
theorem lbX1_isBlock_e {K : Nat} (X : vzX D (XT cA) A wsX1_isBlock cX1_isBlock 2 (some .boolean) RX1 p s m args meth c) : ∀ (x1 : Int32) (u : XU) (H : Heap) (locs : List Loc) (ls : Array Slot) (r : Int32) (u2 : XU), fX1_isBlock n K x1 u = some (r, u2) → va_P D vwCl (XW a n cA u) H → va_D A (XW a n cA u) → va_S A s.heap H locs → lv_has ls 2 [(0, .ref (a 1)), (1, .int x1)] → W p l e (headSpec wsX1_isBlock rmX1_isBlock).room s m args below meth c H locs 0 0 (MQ below (vzQ D (XT cA) (XW a n cA) A r u2) args s 0 0 A) (F0 m 0 ls []) := by
  obtain ⟨hx, hb, hr, hml, hown, hts, hlk, hN, hK, hA⟩ := id X
  intro x1 u H locs ls r u2 hf hP hD hS hl
  unfold fX1_isBlock at hf
  refine lv_iload_n hx hb dX1_isBlock_0 rfl (lv_at hl 1 rfl) ?_
  refine lv_if_lt (tgt := 16) hx hb dX1_isBlock_1 (by decide) (fun c1 => ?_) (fun c1 => ?_)
  · have hf := ift c1 hf
    refine lv_iconst (v := zI 0) hx hb dX1_isBlock_16 (by decide) ?_
    cases hf
    exact vz_zret X rfl hP hD hS dX1_isBlock_17
  · have hf := iff_ c1 hf
    refine lv_iload_n hx hb dX1_isBlock_4 rfl (lv_at hl 1 rfl) ?_
    refine lv_aload_n hx hb dX1_isBlock_5 rfl (lv_at hl 0 rfl) ?_
    refine va_get (D := D) (ci := 1) (v := .int (xu_blk u)) (C := RX1) (T := TX1) (N := 11) hx hb hts in_X1_isBlock_X1 hown hK hP 1 rfl rfl 0 (by decide) (hts _ (List.mem_of_getElem? (i := 1) rfl)) (fun _ h9 => h9) rfl dX1_isBlock_6 ?_
    refine lv_icmp_ge (tgt := 16) hx hb dX1_isBlock_9 (by decide) (fun c2 => ?_) (fun c2 => ?_)
    · have hf := ift c2 hf
      refine lv_iconst (v := zI 0) hx hb dX1_isBlock_16 (by decide) ?_
      cases hf
      exact vz_zret X rfl hP hD hS dX1_isBlock_17
    · have hf := iff_ c2 hf
      refine lv_iconst (v := zI 1) hx hb dX1_isBlock_12 (by decide) ?_
      refine lv_goto (tgt := 17) hx hb dX1_isBlock_13 (by decide) ?_
      cases hf
      exact vz_zret X rfl hP hD hS dX1_isBlock_17
end
theorem kX1_isBlock {l : Launch} {D : va_G} {a n : Nat → Nat} {cA : Nat → ClassId} {K : Nat} {x1 : Int32} {u : XU} {r : Int32} {u2 : XU} (h : fX1_isBlock n K x1 u = some (r, u2)) : vzC l D (XT cA) (XW a n cA) yX1_isBlock wsX1_isBlock rmX1_isBlock [.ref (a 1), .int x1] u r u2 := vzC.of (by decide) rfl (Nat.le_of_ble_eq_true rfl) (fun p e s m below meth c A ls X hP hD hl => lbX1_isBlock_e X x1 u s.heap [] ls r u2 h hP hD va_S.rf hl)
abbrev rmX1_isProgrammed : Room := { frames := 0, cells := 0, slots := 0, locals := 0 }
theorem in_X1_isProgrammed_X1 : ∀ w ∈ u_ws RX1 TX1 11, w ∈ wsX1_isProgrammed := fun _ h => List.mem_cons_of_mem _ (List.mem_append_right _ h)
def fX1_isProgrammed (n : Nat → Nat) (K : Nat) (x1 : Int32) (u : XU) : Option (Int32 × XU) := if x1 < 0 then (some (zI 0, u)) else (if (nI (n 5)) ≤ x1 then (some (zI 0, u)) else (vg x1 (n 5) (if ((xu_kin u) x1.toNatClampNeg) = 0 then (some (zI 0, u)) else (some (zI 1, u)))))
section
variable {p : Program} {l : Launch} {e : Env} {s : State} {m : MethodId} {args : Array Value} {below : List Frame} {meth : Method} {c : Code} {D : va_G} {a n : Nat → Nat} {cA : Nat → ClassId} {A : Nat → Prop}
set_option maxHeartbeats 4000000 in
set_option maxRecDepth 100000 in
theorem lbX1_isProgrammed_e {K : Nat} (X : vzX D (XT cA) A wsX1_isProgrammed cX1_isProgrammed 2 (some .boolean) RX1 p s m args meth c) : ∀ (x1 : Int32) (u : XU) (H : Heap) (locs : List Loc) (ls : Array Slot) (r : Int32) (u2 : XU), fX1_isProgrammed n K x1 u = some (r, u2) → va_P D vwCl (XW a n cA u) H → va_D A (XW a n cA u) → va_S A s.heap H locs → lv_has ls 2 [(0, .ref (a 1)), (1, .int x1)] → W p l e (headSpec wsX1_isProgrammed rmX1_isProgrammed).room s m args below meth c H locs 0 0 (MQ below (vzQ D (XT cA) (XW a n cA) A r u2) args s 0 0 A) (F0 m 0 ls []) := by
  obtain ⟨hx, hb, hr, hml, hown, hts, hlk, hN, hK, hA⟩ := id X
  intro x1 u H locs ls r u2 hf hP hD hS hl
  unfold fX1_isProgrammed at hf
  refine lv_iload_n hx hb dX1_isProgrammed_0 rfl (lv_at hl 1 rfl) ?_
  refine lv_if_lt (tgt := 26) hx hb dX1_isProgrammed_1 (by decide) (fun c1 => ?_) (fun c1 => ?_)
  · have hf := ift c1 hf
    refine lv_iconst (v := zI 0) hx hb dX1_isProgrammed_26 (by decide) ?_
    cases hf
    exact vz_zret X rfl hP hD hS dX1_isProgrammed_27
  · have hf := iff_ c1 hf
    refine lv_iload_n hx hb dX1_isProgrammed_4 rfl (lv_at hl 1 rfl) ?_
    refine lv_aload_n hx hb dX1_isProgrammed_5 rfl (lv_at hl 0 rfl) ?_
    refine va_get (D := D) (ci := 1) (v := .ref (a 5)) (C := RX1) (T := TX1) (N := 11) hx hb hts in_X1_isProgrammed_X1 hown hK hP 1 rfl rfl 3 (by decide) (hts _ (List.mem_of_getElem? (i := 1) rfl)) (fun _ h9 => h9) rfl dX1_isProgrammed_6 ?_
    refine va_alen (v := nI (n 5)) (ty := .int) hx hb hK hP 5 2 rfl rfl rfl dX1_isProgrammed_9 ?_
    refine lv_icmp_ge (tgt := 26) hx hb dX1_isProgrammed_10 (by decide) (fun c2 => ?_) (fun c2 => ?_)
    · have hf := ift c2 hf
      refine lv_iconst (v := zI 0) hx hb dX1_isProgrammed_26 (by decide) ?_
      cases hf
      exact vz_zret X rfl hP hD hS dX1_isProgrammed_27
    · have hf := iff_ c2 hf
      refine lv_aload_n hx hb dX1_isProgrammed_13 rfl (lv_at hl 0 rfl) ?_
      refine va_get (D := D) (ci := 1) (v := .ref (a 5)) (C := RX1) (T := TX1) (N := 11) hx hb hts in_X1_isProgrammed_X1 hown hK hP 1 rfl rfl 3 (by decide) (hts _ (List.mem_of_getElem? (i := 1) rfl)) (fun _ h9 => h9) rfl dX1_isProgrammed_14 ?_
      refine lv_iload_n hx hb dX1_isProgrammed_17 rfl (lv_at hl 1 rfl) ?_
      obtain ⟨g3, hf⟩ := vgs hf
      refine va_iald hx hb hK hP 5 2 rfl rfl g3 dX1_isProgrammed_18 ?_
      refine lv_if_eq (tgt := 26) hx hb dX1_isProgrammed_19 (by decide) (fun c4 => ?_) (fun c4 => ?_)
      · have hf := ift c4 hf
        refine lv_iconst (v := zI 0) hx hb dX1_isProgrammed_26 (by decide) ?_
        cases hf
        exact vz_zret X rfl hP hD hS dX1_isProgrammed_27
      · have hf := iff_ c4 hf
        refine lv_iconst (v := zI 1) hx hb dX1_isProgrammed_22 (by decide) ?_
        refine lv_goto (tgt := 27) hx hb dX1_isProgrammed_23 (by decide) ?_
        cases hf
        exact vz_zret X rfl hP hD hS dX1_isProgrammed_27
end
theorem kX1_isProgrammed {l : Launch} {D : va_G} {a n : Nat → Nat} {cA : Nat → ClassId} {K : Nat} {x1 : Int32} {u : XU} {r : Int32} {u2 : XU} (h : fX1_isProgrammed n K x1 u = some (r, u2)) : vzC l D (XT cA) (XW a n cA) yX1_isProgrammed wsX1_isProgrammed rmX1_isProgrammed [.ref (a 1), .int x1] u r u2 := vzC.of (by decide) rfl (Nat.le_of_ble_eq_true rfl) (fun p e s m below meth c A ls X hP hD hl => lbX1_isProgrammed_e X x1 u s.heap [] ls r u2 h hP hD va_S.rf hl)
abbrev rmX1_isValid : Room := { frames := 0, cells := 0, slots := 0, locals := 0 }
theorem in_X1_isValid_X1 : ∀ w ∈ u_ws RX1 TX1 11, w ∈ wsX1_isValid := fun _ h => List.mem_cons_of_mem _ (List.mem_append_right _ h)
def fX1_isValid (n : Nat → Nat) (K : Nat) (x1 : Int32) (u : XU) : Option (Int32 × XU) := vg x1 (n 5) (if ((xu_kin u) x1.toNatClampNeg) = 0 then (some (zI 0, u)) else (vg x1 (n 3) (vg ((xu_own u) x1.toNatClampNeg) (n 9) (if ((xu_new u) (((xu_own u) x1.toNatClampNeg)).toNatClampNeg) = x1 then (some (zI 1, u)) else (some (zI 0, u))))))
section
variable {p : Program} {l : Launch} {e : Env} {s : State} {m : MethodId} {args : Array Value} {below : List Frame} {meth : Method} {c : Code} {D : va_G} {a n : Nat → Nat} {cA : Nat → ClassId} {A : Nat → Prop}
set_option maxHeartbeats 4000000 in
set_option maxRecDepth 100000 in
theorem lbX1_isValid_e {K : Nat} (X : vzX D (XT cA) A wsX1_isValid cX1_isValid 2 (some .boolean) RX1 p s m args meth c) : ∀ (x1 : Int32) (u : XU) (H : Heap) (locs : List Loc) (ls : Array Slot) (r : Int32) (u2 : XU), fX1_isValid n K x1 u = some (r, u2) → va_P D vwCl (XW a n cA u) H → va_D A (XW a n cA u) → va_S A s.heap H locs → lv_has ls 2 [(0, .ref (a 1)), (1, .int x1)] → W p l e (headSpec wsX1_isValid rmX1_isValid).room s m args below meth c H locs 0 0 (MQ below (vzQ D (XT cA) (XW a n cA) A r u2) args s 0 0 A) (F0 m 0 ls []) := by
  obtain ⟨hx, hb, hr, hml, hown, hts, hlk, hN, hK, hA⟩ := id X
  intro x1 u H locs ls r u2 hf hP hD hS hl
  unfold fX1_isValid at hf
  refine lv_aload_n hx hb dX1_isValid_0 rfl (lv_at hl 0 rfl) ?_
  refine va_get (D := D) (ci := 1) (v := .ref (a 5)) (C := RX1) (T := TX1) (N := 11) hx hb hts in_X1_isValid_X1 hown hK hP 1 rfl rfl 3 (by decide) (hts _ (List.mem_of_getElem? (i := 1) rfl)) (fun _ h9 => h9) rfl dX1_isValid_1 ?_
  refine lv_iload_n hx hb dX1_isValid_4 rfl (lv_at hl 1 rfl) ?_
  obtain ⟨g1, hf⟩ := vgs hf
  refine va_iald hx hb hK hP 5 2 rfl rfl g1 dX1_isValid_5 ?_
  refine lv_if_eq (tgt := 28) hx hb dX1_isValid_6 (by decide) (fun c2 => ?_) (fun c2 => ?_)
  · have hf := ift c2 hf
    refine lv_iconst (v := zI 0) hx hb dX1_isValid_28 (by decide) ?_
    cases hf
    exact vz_zret X rfl hP hD hS dX1_isValid_29
  · have hf := iff_ c2 hf
    refine lv_aload_n hx hb dX1_isValid_9 rfl (lv_at hl 0 rfl) ?_
    refine va_get (D := D) (ci := 1) (v := .ref (a 9)) (C := RX1) (T := TX1) (N := 11) hx hb hts in_X1_isValid_X1 hown hK hP 1 rfl rfl 7 (by decide) (hts _ (List.mem_of_getElem? (i := 2) rfl)) (fun _ h9 => h9) rfl dX1_isValid_10 ?_
    refine lv_aload_n hx hb dX1_isValid_13 rfl (lv_at hl 0 rfl) ?_
    refine va_get (D := D) (ci := 1) (v := .ref (a 3)) (C := RX1) (T := TX1) (N := 11) hx hb hts in_X1_isValid_X1 hown hK hP 1 rfl rfl 1 (by decide) (hts _ (List.mem_of_getElem? (i := 3) rfl)) (fun _ h9 => h9) rfl dX1_isValid_14 ?_
    refine lv_iload_n hx hb dX1_isValid_17 rfl (lv_at hl 1 rfl) ?_
    obtain ⟨g3, hf⟩ := vgs hf
    refine va_iald hx hb hK hP 3 0 rfl rfl g3 dX1_isValid_18 ?_
    obtain ⟨g4, hf⟩ := vgs hf
    refine va_iald hx hb hK hP 9 6 rfl rfl g4 dX1_isValid_19 ?_
    refine lv_iload_n hx hb dX1_isValid_20 rfl (lv_at hl 1 rfl) ?_
    refine lv_icmp_ne (tgt := 28) hx hb dX1_isValid_21 (by decide) (fun c5 => ?_) (fun c5 => ?_)
    · have hf := iff_ c5 hf
      refine lv_iconst (v := zI 0) hx hb dX1_isValid_28 (by decide) ?_
      cases hf
      exact vz_zret X rfl hP hD hS dX1_isValid_29
    · have hf := ift c5 hf
      refine lv_iconst (v := zI 1) hx hb dX1_isValid_24 (by decide) ?_
      refine lv_goto (tgt := 29) hx hb dX1_isValid_25 (by decide) ?_
      cases hf
      exact vz_zret X rfl hP hD hS dX1_isValid_29
end
theorem kX1_isValid {l : Launch} {D : va_G} {a n : Nat → Nat} {cA : Nat → ClassId} {K : Nat} {x1 : Int32} {u : XU} {r : Int32} {u2 : XU} (h : fX1_isValid n K x1 u = some (r, u2)) : vzC l D (XT cA) (XW a n cA) yX1_isValid wsX1_isValid rmX1_isValid [.ref (a 1), .int x1] u r u2 := vzC.of (by decide) rfl (Nat.le_of_ble_eq_true rfl) (fun p e s m below meth c A ls X hP hD hl => lbX1_isValid_e X x1 u s.heap [] ls r u2 h hP hD va_S.rf hl)
abbrev rmX1_hasRoom : Room := { frames := 0, cells := 0, slots := 0, locals := 0 }
theorem in_X1_hasRoom_X1 : ∀ w ∈ u_ws RX1 TX1 11, w ∈ wsX1_hasRoom := fun _ h => List.mem_cons_of_mem _ (List.mem_append_right _ h)
def fX1_hasRoom (n : Nat → Nat) (K : Nat) (x1 : Int32) (u : XU) : Option (Int32 × XU) := if x1 < 0 then (some (zI 0, u)) else (if (xu_blk u) ≤ x1 then (some (zI 0, u)) else (vg x1 (n 7) (if (zI 4) ≤ ((xu_prg u) x1.toNatClampNeg) then (some (zI 0, u)) else (some (zI 1, u)))))
section
variable {p : Program} {l : Launch} {e : Env} {s : State} {m : MethodId} {args : Array Value} {below : List Frame} {meth : Method} {c : Code} {D : va_G} {a n : Nat → Nat} {cA : Nat → ClassId} {A : Nat → Prop}
set_option maxHeartbeats 4000000 in
set_option maxRecDepth 100000 in
theorem lbX1_hasRoom_e {K : Nat} (X : vzX D (XT cA) A wsX1_hasRoom cX1_hasRoom 2 (some .boolean) RX1 p s m args meth c) : ∀ (x1 : Int32) (u : XU) (H : Heap) (locs : List Loc) (ls : Array Slot) (r : Int32) (u2 : XU), fX1_hasRoom n K x1 u = some (r, u2) → va_P D vwCl (XW a n cA u) H → va_D A (XW a n cA u) → va_S A s.heap H locs → lv_has ls 2 [(0, .ref (a 1)), (1, .int x1)] → W p l e (headSpec wsX1_hasRoom rmX1_hasRoom).room s m args below meth c H locs 0 0 (MQ below (vzQ D (XT cA) (XW a n cA) A r u2) args s 0 0 A) (F0 m 0 ls []) := by
  obtain ⟨hx, hb, hr, hml, hown, hts, hlk, hN, hK, hA⟩ := id X
  intro x1 u H locs ls r u2 hf hP hD hS hl
  unfold fX1_hasRoom at hf
  refine lv_iload_n hx hb dX1_hasRoom_0 rfl (lv_at hl 1 rfl) ?_
  refine lv_if_lt (tgt := 26) hx hb dX1_hasRoom_1 (by decide) (fun c1 => ?_) (fun c1 => ?_)
  · have hf := ift c1 hf
    refine lv_iconst (v := zI 0) hx hb dX1_hasRoom_26 (by decide) ?_
    cases hf
    exact vz_zret X rfl hP hD hS dX1_hasRoom_27
  · have hf := iff_ c1 hf
    refine lv_iload_n hx hb dX1_hasRoom_4 rfl (lv_at hl 1 rfl) ?_
    refine lv_aload_n hx hb dX1_hasRoom_5 rfl (lv_at hl 0 rfl) ?_
    refine va_get (D := D) (ci := 1) (v := .int (xu_blk u)) (C := RX1) (T := TX1) (N := 11) hx hb hts in_X1_hasRoom_X1 hown hK hP 1 rfl rfl 0 (by decide) (hts _ (List.mem_of_getElem? (i := 1) rfl)) (fun _ h9 => h9) rfl dX1_hasRoom_6 ?_
    refine lv_icmp_ge (tgt := 26) hx hb dX1_hasRoom_9 (by decide) (fun c2 => ?_) (fun c2 => ?_)
    · have hf := ift c2 hf
      refine lv_iconst (v := zI 0) hx hb dX1_hasRoom_26 (by decide) ?_
      cases hf
      exact vz_zret X rfl hP hD hS dX1_hasRoom_27
    · have hf := iff_ c2 hf
      refine lv_aload_n hx hb dX1_hasRoom_12 rfl (lv_at hl 0 rfl) ?_
      refine va_get (D := D) (ci := 1) (v := .ref (a 7)) (C := RX1) (T := TX1) (N := 11) hx hb hts in_X1_hasRoom_X1 hown hK hP 1 rfl rfl 5 (by decide) (hts _ (List.mem_of_getElem? (i := 2) rfl)) (fun _ h9 => h9) rfl dX1_hasRoom_13 ?_
      refine lv_iload_n hx hb dX1_hasRoom_16 rfl (lv_at hl 1 rfl) ?_
      obtain ⟨g3, hf⟩ := vgs hf
      refine va_iald hx hb hK hP 7 4 rfl rfl g3 dX1_hasRoom_17 ?_
      refine lv_iconst (v := zI 4) hx hb dX1_hasRoom_18 (by decide) ?_
      refine lv_icmp_ge (tgt := 26) hx hb dX1_hasRoom_19 (by decide) (fun c4 => ?_) (fun c4 => ?_)
      · have hf := ift c4 hf
        refine lv_iconst (v := zI 0) hx hb dX1_hasRoom_26 (by decide) ?_
        cases hf
        exact vz_zret X rfl hP hD hS dX1_hasRoom_27
      · have hf := iff_ c4 hf
        refine lv_iconst (v := zI 1) hx hb dX1_hasRoom_22 (by decide) ?_
        refine lv_goto (tgt := 27) hx hb dX1_hasRoom_23 (by decide) ?_
        cases hf
        exact vz_zret X rfl hP hD hS dX1_hasRoom_27
end
theorem kX1_hasRoom {l : Launch} {D : va_G} {a n : Nat → Nat} {cA : Nat → ClassId} {K : Nat} {x1 : Int32} {u : XU} {r : Int32} {u2 : XU} (h : fX1_hasRoom n K x1 u = some (r, u2)) : vzC l D (XT cA) (XW a n cA) yX1_hasRoom wsX1_hasRoom rmX1_hasRoom [.ref (a 1), .int x1] u r u2 := vzC.of (by decide) rfl (Nat.le_of_ble_eq_true rfl) (fun p e s m below meth c A ls X hP hD hl => lbX1_hasRoom_e X x1 u s.heap [] ls r u2 h hP hD va_S.rf hl)
abbrev rmX1_countValid : Room := { frames := 1, cells := 0, slots := 0, locals := 21 }
theorem in_X1_countValid_X1 : ∀ w ∈ u_ws RX1 TX1 11, w ∈ wsX1_countValid := fun _ h => List.mem_cons_of_mem _ (List.mem_append_right _ h)
def fX1_countValid_4 (n : Nat → Nat) (K : Nat) : Nat → Int32 → Int32 → Int32 → XU → Option (Int32 × XU)
  | 0, _, _, _, _ => none
  | N + 1, x1, x2, x3, u => if (zI 4) ≤ x3 then (some (x2, u)) else ((fX1_isValid n K ((x1 * (zI 4)) + x3) u).bind fun z2 => (if z2.1 = 0 then (fX1_countValid_4 n K N x1 x2 (x3 + (zI 1)) z2.2) else (fX1_countValid_4 n K N x1 (x2 + (zI 1)) (x3 + (zI 1)) z2.2)))
def fX1_countValid (n : Nat → Nat) (K : Nat) (x1 : Int32) (u : XU) : Option (Int32 × XU) := fX1_countValid_4 n K K x1 (zI 0) (zI 0) u
section
variable {p : Program} {l : Launch} {e : Env} {s : State} {m : MethodId} {args : Array Value} {below : List Frame} {meth : Method} {c : Code} {D : va_G} {a n : Nat → Nat} {cA : Nat → ClassId} {A : Nat → Prop}
set_option maxHeartbeats 4000000 in
set_option maxRecDepth 100000 in
theorem lbX1_countValid_4 {K : Nat} (X : vzX D (XT cA) A wsX1_countValid cX1_countValid 4 (some .int) RX1 p s m args meth c) : ∀ (N : Nat) (x1 x2 x3 : Int32) (u : XU) (H : Heap) (locs : List Loc) (ls : Array Slot) (r : Int32) (u2 : XU), fX1_countValid_4 n K N x1 x2 x3 u = some (r, u2) → va_P D vwCl (XW a n cA u) H → va_D A (XW a n cA u) → va_S A s.heap H locs → lv_has ls 4 [(0, .ref (a 1)), (1, .int x1), (2, .int x2), (3, .int x3)] → W p l e (headSpec wsX1_countValid rmX1_countValid).room s m args below meth c H locs 0 0 (MQ below (vzQ D (XT cA) (XW a n cA) A r u2) args s 0 0 A) (F0 m 4 ls []) := by
  obtain ⟨hx, hb, hr, hml, hown, hts, hlk, hN, hK, hA⟩ := id X
  intro N
  induction N with
  | zero =>
    intro x1 x2 x3 u H locs ls r u2 hf
    cases hf
  | succ N ih =>
    intro x1 x2 x3 u H locs ls r u2 hf hP hD hS hl
    rw [fX1_countValid_4] at hf
    refine lv_iload_n hx hb dX1_countValid_4 rfl (lv_at hl 3 rfl) ?_
    refine lv_iconst (v := zI 4) hx hb dX1_countValid_5 (by decide) ?_
    refine lv_icmp_ge (tgt := 30) hx hb dX1_countValid_6 (by decide) (fun c1 => ?_) (fun c1 => ?_)
    · have hf := ift c1 hf
      refine lv_iload_n hx hb dX1_countValid_30 rfl (lv_at hl 2 rfl) ?_
      cases hf
      exact vz_iret X hP hD hS dX1_countValid_31
    · have hf := iff_ c1 hf
      refine lv_aload_n hx hb dX1_countValid_9 rfl (lv_at hl 0 rfl) ?_
      refine lv_iload_n hx hb dX1_countValid_10 rfl (lv_at hl 1 rfl) ?_
      refine lv_iconst (v := zI 4) hx hb dX1_countValid_11 (by decide) ?_
      refine lv_imul hx hb dX1_countValid_12 ?_
      refine lv_iload_n hx hb dX1_countValid_13 rfl (lv_at hl 3 rfl) ?_
      refine lv_iadd hx hb dX1_countValid_14 ?_
      obtain ⟨z2, hz3, hf⟩ := bd hf
      refine vz_call (rest := []) X (kX1_isValid hz3) (cwV 1 hts gX1_countValid_X1_isValid rfl rfl rfl (by decide +kernel) ⟨Nat.le_of_ble_eq_true rfl, Nat.le_of_ble_eq_true rfl⟩) 1 1 rfl rfl rfl hl.1 rfl (Nat.le_of_ble_eq_true rfl) dX1_countValid_15 ⟨Nat.zero_le _, Nat.zero_le _⟩ hP hD hS (fun H locs hP hD hS => ?_)
      refine lv_if_eq (tgt := 24) hx hb dX1_countValid_18 (by decide) (fun c4 => ?_) (fun c4 => ?_)
      · have hf := ift c4 hf
        refine lv_iinc (v := x3 + (zI 1)) (lv' := [(3, .int (x3 + (zI 1))), (0, .ref (a 1)), (1, .int x1), (2, .int x2)]) hx hb dX1_countValid_24 hl (k := 3) rfl rfl (by decide) rfl (fun ls hl => ?_)
        refine lv_goto (tgt := 4) hx hb dX1_countValid_27 (by decide) ?_
        exact ih x1 x2 (x3 + (zI 1)) z2.2 _ _ _ _ _ hf hP hD hS (lv_sub hl [1, 2, 3, 0] rfl)
      · have hf := iff_ c4 hf
        refine lv_iinc (v := x2 + (zI 1)) (lv' := [(2, .int (x2 + (zI 1))), (0, .ref (a 1)), (1, .int x1), (3, .int x3)]) hx hb dX1_countValid_21 hl (k := 2) rfl rfl (by decide) rfl (fun ls hl => ?_)
        refine lv_iinc (v := x3 + (zI 1)) (lv' := [(3, .int (x3 + (zI 1))), (2, .int (x2 + (zI 1))), (0, .ref (a 1)), (1, .int x1)]) hx hb dX1_countValid_24 hl (k := 3) rfl rfl (by decide) rfl (fun ls hl => ?_)
        refine lv_goto (tgt := 4) hx hb dX1_countValid_27 (by decide) ?_
        exact ih x1 (x2 + (zI 1)) (x3 + (zI 1)) z2.2 _ _ _ _ _ hf hP hD hS (lv_sub hl [2, 3, 1, 0] rfl)
set_option maxHeartbeats 4000000 in
set_option maxRecDepth 100000 in
theorem lbX1_countValid_e {K : Nat} (X : vzX D (XT cA) A wsX1_countValid cX1_countValid 4 (some .int) RX1 p s m args meth c) : ∀ (x1 : Int32) (u : XU) (H : Heap) (locs : List Loc) (ls : Array Slot) (r : Int32) (u2 : XU), fX1_countValid n K x1 u = some (r, u2) → va_P D vwCl (XW a n cA u) H → va_D A (XW a n cA u) → va_S A s.heap H locs → lv_has ls 4 [(0, .ref (a 1)), (1, .int x1)] → W p l e (headSpec wsX1_countValid rmX1_countValid).room s m args below meth c H locs 0 0 (MQ below (vzQ D (XT cA) (XW a n cA) A r u2) args s 0 0 A) (F0 m 0 ls []) := by
  obtain ⟨hx, hb, hr, hml, hown, hts, hlk, hN, hK, hA⟩ := id X
  intro x1 u H locs ls r u2 hf hP hD hS hl
  unfold fX1_countValid at hf
  refine lv_iconst (v := zI 0) hx hb dX1_countValid_0 (by decide) ?_
  refine lv_istore_n (lv' := [(2, .int (zI 0)), (0, .ref (a 1)), (1, .int x1)]) hx hb dX1_countValid_1 rfl hl (by decide) rfl (fun ls hl => ?_)
  refine lv_iconst (v := zI 0) hx hb dX1_countValid_2 (by decide) ?_
  refine lv_istore_n (lv' := [(3, .int (zI 0)), (2, .int (zI 0)), (0, .ref (a 1)), (1, .int x1)]) hx hb dX1_countValid_3 rfl hl (by decide) rfl (fun ls hl => ?_)
  exact lbX1_countValid_4 X K x1 (zI 0) (zI 0) u _ _ _ _ _ hf hP hD hS (lv_sub hl [2, 3, 1, 0] rfl)
end
theorem kX1_countValid {l : Launch} {D : va_G} {a n : Nat → Nat} {cA : Nat → ClassId} {K : Nat} {x1 : Int32} {u : XU} {r : Int32} {u2 : XU} (h : fX1_countValid n K x1 u = some (r, u2)) : vzC l D (XT cA) (XW a n cA) yX1_countValid wsX1_countValid rmX1_countValid [.ref (a 1), .int x1] u r u2 := vzC.of (by decide) rfl (Nat.le_of_ble_eq_true rfl) (fun p e s m below meth c A ls X hP hD hl => lbX1_countValid_e X x1 u s.heap [] ls r u2 h hP hD va_S.rf hl)
abbrev rmX1_countFree : Room := { frames := 0, cells := 0, slots := 0, locals := 0 }
theorem in_X1_countFree_X1 : ∀ w ∈ u_ws RX1 TX1 11, w ∈ wsX1_countFree := fun _ h => List.mem_cons_of_mem _ (List.mem_append_right _ h)
def fX1_countFree_4 (n : Nat → Nat) (K : Nat) : Nat → Int32 → Int32 → XU → Option (Int32 × XU)
  | 0, _, _, _ => none
  | N + 1, x1, x2, u => if (xu_blk u) ≤ x2 then (some (x1, u)) else (vg x2 (n 7) (if ((xu_prg u) x2.toNatClampNeg) = 0 then (fX1_countFree_4 n K N (x1 + (zI 1)) (x2 + (zI 1)) u) else (fX1_countFree_4 n K N x1 (x2 + (zI 1)) u)))
def fX1_countFree (n : Nat → Nat) (K : Nat) (u : XU) : Option (Int32 × XU) := fX1_countFree_4 n K K (zI 0) (zI 0) u
section
variable {p : Program} {l : Launch} {e : Env} {s : State} {m : MethodId} {args : Array Value} {below : List Frame} {meth : Method} {c : Code} {D : va_G} {a n : Nat → Nat} {cA : Nat → ClassId} {A : Nat → Prop}
set_option maxHeartbeats 4000000 in
set_option maxRecDepth 100000 in
theorem lbX1_countFree_4 {K : Nat} (X : vzX D (XT cA) A wsX1_countFree cX1_countFree 3 (some .int) RX1 p s m args meth c) : ∀ (N : Nat) (x1 x2 : Int32) (u : XU) (H : Heap) (locs : List Loc) (ls : Array Slot) (r : Int32) (u2 : XU), fX1_countFree_4 n K N x1 x2 u = some (r, u2) → va_P D vwCl (XW a n cA u) H → va_D A (XW a n cA u) → va_S A s.heap H locs → lv_has ls 3 [(0, .ref (a 1)), (1, .int x1), (2, .int x2)] → W p l e (headSpec wsX1_countFree rmX1_countFree).room s m args below meth c H locs 0 0 (MQ below (vzQ D (XT cA) (XW a n cA) A r u2) args s 0 0 A) (F0 m 4 ls []) := by
  obtain ⟨hx, hb, hr, hml, hown, hts, hlk, hN, hK, hA⟩ := id X
  intro N
  induction N with
  | zero =>
    intro x1 x2 u H locs ls r u2 hf
    cases hf
  | succ N ih =>
    intro x1 x2 u H locs ls r u2 hf hP hD hS hl
    rw [fX1_countFree_4] at hf
    refine lv_iload_n hx hb dX1_countFree_4 rfl (lv_at hl 2 rfl) ?_
    refine lv_aload_n hx hb dX1_countFree_5 rfl (lv_at hl 0 rfl) ?_
    refine va_get (D := D) (ci := 1) (v := .int (xu_blk u)) (C := RX1) (T := TX1) (N := 11) hx hb hts in_X1_countFree_X1 hown hK hP 1 rfl rfl 0 (by decide) (hts _ (List.mem_of_getElem? (i := 1) rfl)) (fun _ h9 => h9) rfl dX1_countFree_6 ?_
    refine lv_icmp_ge (tgt := 30) hx hb dX1_countFree_9 (by decide) (fun c1 => ?_) (fun c1 => ?_)
    · have hf := ift c1 hf
      refine lv_iload_n hx hb dX1_countFree_30 rfl (lv_at hl 1 rfl) ?_
      cases hf
      exact vz_iret X hP hD hS dX1_countFree_31
    · have hf := iff_ c1 hf
      refine lv_aload_n hx hb dX1_countFree_12 rfl (lv_at hl 0 rfl) ?_
      refine va_get (D := D) (ci := 1) (v := .ref (a 7)) (C := RX1) (T := TX1) (N := 11) hx hb hts in_X1_countFree_X1 hown hK hP 1 rfl rfl 5 (by decide) (hts _ (List.mem_of_getElem? (i := 2) rfl)) (fun _ h9 => h9) rfl dX1_countFree_13 ?_
      refine lv_iload_n hx hb dX1_countFree_16 rfl (lv_at hl 2 rfl) ?_
      obtain ⟨g2, hf⟩ := vgs hf
      refine va_iald hx hb hK hP 7 4 rfl rfl g2 dX1_countFree_17 ?_
      refine lv_if_ne (tgt := 24) hx hb dX1_countFree_18 (by decide) (fun c3 => ?_) (fun c3 => ?_)
      · have hf := iff_ c3 hf
        refine lv_iinc (v := x2 + (zI 1)) (lv' := [(2, .int (x2 + (zI 1))), (0, .ref (a 1)), (1, .int x1)]) hx hb dX1_countFree_24 hl (k := 2) rfl rfl (by decide) rfl (fun ls hl => ?_)
        refine lv_goto (tgt := 4) hx hb dX1_countFree_27 (by decide) ?_
        exact ih x1 (x2 + (zI 1)) u _ _ _ _ _ hf hP hD hS (lv_sub hl [1, 2, 0] rfl)
      · have hf := ift c3 hf
        refine lv_iinc (v := x1 + (zI 1)) (lv' := [(1, .int (x1 + (zI 1))), (0, .ref (a 1)), (2, .int x2)]) hx hb dX1_countFree_21 hl (k := 1) rfl rfl (by decide) rfl (fun ls hl => ?_)
        refine lv_iinc (v := x2 + (zI 1)) (lv' := [(2, .int (x2 + (zI 1))), (1, .int (x1 + (zI 1))), (0, .ref (a 1))]) hx hb dX1_countFree_24 hl (k := 2) rfl rfl (by decide) rfl (fun ls hl => ?_)
        refine lv_goto (tgt := 4) hx hb dX1_countFree_27 (by decide) ?_
        exact ih (x1 + (zI 1)) (x2 + (zI 1)) u _ _ _ _ _ hf hP hD hS (lv_sub hl [2, 1, 0] rfl)
set_option maxHeartbeats 4000000 in
set_option maxRecDepth 100000 in
theorem lbX1_countFree_e {K : Nat} (X : vzX D (XT cA) A wsX1_countFree cX1_countFree 3 (some .int) RX1 p s m args meth c) : ∀ (u : XU) (H : Heap) (locs : List Loc) (ls : Array Slot) (r : Int32) (u2 : XU), fX1_countFree n K u = some (r, u2) → va_P D vwCl (XW a n cA u) H → va_D A (XW a n cA u) → va_S A s.heap H locs → lv_has ls 3 [(0, .ref (a 1))] → W p l e (headSpec wsX1_countFree rmX1_countFree).room s m args below meth c H locs 0 0 (MQ below (vzQ D (XT cA) (XW a n cA) A r u2) args s 0 0 A) (F0 m 0 ls []) := by
  obtain ⟨hx, hb, hr, hml, hown, hts, hlk, hN, hK, hA⟩ := id X
  intro u H locs ls r u2 hf hP hD hS hl
  unfold fX1_countFree at hf
  refine lv_iconst (v := zI 0) hx hb dX1_countFree_0 (by decide) ?_
  refine lv_istore_n (lv' := [(1, .int (zI 0)), (0, .ref (a 1))]) hx hb dX1_countFree_1 rfl hl (by decide) rfl (fun ls hl => ?_)
  refine lv_iconst (v := zI 0) hx hb dX1_countFree_2 (by decide) ?_
  refine lv_istore_n (lv' := [(2, .int (zI 0)), (1, .int (zI 0)), (0, .ref (a 1))]) hx hb dX1_countFree_3 rfl hl (by decide) rfl (fun ls hl => ?_)
  exact lbX1_countFree_4 X K (zI 0) (zI 0) u _ _ _ _ _ hf hP hD hS (lv_sub hl [2, 1, 0] rfl)
end
theorem kX1_countFree {l : Launch} {D : va_G} {a n : Nat → Nat} {cA : Nat → ClassId} {K : Nat} {u : XU} {r : Int32} {u2 : XU} (h : fX1_countFree n K u = some (r, u2)) : vzC l D (XT cA) (XW a n cA) yX1_countFree wsX1_countFree rmX1_countFree [.ref (a 1)] u r u2 := vzC.of (by decide) rfl (Nat.le_of_ble_eq_true rfl) (fun p e s m below meth c A ls X hP hD hl => lbX1_countFree_e X u s.heap [] ls r u2 h hP hD va_S.rf hl)
abbrev rmX1_leastWornFree : Room := { frames := 0, cells := 0, slots := 0, locals := 0 }
theorem in_X1_leastWornFree_X1 : ∀ w ∈ u_ws RX1 TX1 11, w ∈ wsX1_leastWornFree := fun _ h => List.mem_cons_of_mem _ (List.mem_append_right _ h)
def fX1_leastWornFree_4 (n : Nat → Nat) (K : Nat) : Nat → Int32 → Int32 → XU → Option (Int32 × XU)
  | 0, _, _, _ => none
  | N + 1, x1, x2, u => if (xu_blk u) ≤ x2 then (some (x1, u)) else (vg x2 (n 7) (if ((xu_prg u) x2.toNatClampNeg) = 0 then (if x1 = (zI (-1)) then (fX1_leastWornFree_4 n K N x2 (x2 + (zI 1)) u) else (vg x2 (n 8) (vg x1 (n 8) (if ((xu_wea u) x1.toNatClampNeg) ≤ ((xu_wea u) x2.toNatClampNeg) then (fX1_leastWornFree_4 n K N x1 (x2 + (zI 1)) u) else (fX1_leastWornFree_4 n K N x2 (x2 + (zI 1)) u))))) else (fX1_leastWornFree_4 n K N x1 (x2 + (zI 1)) u)))
def fX1_leastWornFree (n : Nat → Nat) (K : Nat) (u : XU) : Option (Int32 × XU) := fX1_leastWornFree_4 n K K (zI (-1)) (zI 0) u
section
variable {p : Program} {l : Launch} {e : Env} {s : State} {m : MethodId} {args : Array Value} {below : List Frame} {meth : Method} {c : Code} {D : va_G} {a n : Nat → Nat} {cA : Nat → ClassId} {A : Nat → Prop}
set_option maxHeartbeats 4000000 in
set_option maxRecDepth 100000 in
theorem lbX1_leastWornFree_4 {K : Nat} (X : vzX D (XT cA) A wsX1_leastWornFree cX1_leastWornFree 3 (some .int) RX1 p s m args meth c) : ∀ (N : Nat) (x1 x2 : Int32) (u : XU) (H : Heap) (locs : List Loc) (ls : Array Slot) (r : Int32) (u2 : XU), fX1_leastWornFree_4 n K N x1 x2 u = some (r, u2) → va_P D vwCl (XW a n cA u) H → va_D A (XW a n cA u) → va_S A s.heap H locs → lv_has ls 3 [(0, .ref (a 1)), (1, .int x1), (2, .int x2)] → W p l e (headSpec wsX1_leastWornFree rmX1_leastWornFree).room s m args below meth c H locs 0 0 (MQ below (vzQ D (XT cA) (XW a n cA) A r u2) args s 0 0 A) (F0 m 4 ls []) := by
  obtain ⟨hx, hb, hr, hml, hown, hts, hlk, hN, hK, hA⟩ := id X
  intro N
  induction N with
  | zero =>
    intro x1 x2 u H locs ls r u2 hf
    cases hf
  | succ N ih =>
    intro x1 x2 u H locs ls r u2 hf hP hD hS hl
    rw [fX1_leastWornFree_4] at hf
    refine lv_iload_n hx hb dX1_leastWornFree_4 rfl (lv_at hl 2 rfl) ?_
    refine lv_aload_n hx hb dX1_leastWornFree_5 rfl (lv_at hl 0 rfl) ?_
    refine va_get (D := D) (ci := 1) (v := .int (xu_blk u)) (C := RX1) (T := TX1) (N := 11) hx hb hts in_X1_leastWornFree_X1 hown hK hP 1 rfl rfl 0 (by decide) (hts _ (List.mem_of_getElem? (i := 1) rfl)) (fun _ h9 => h9) rfl dX1_leastWornFree_6 ?_
    refine lv_icmp_ge (tgt := 49) hx hb dX1_leastWornFree_9 (by decide) (fun c1 => ?_) (fun c1 => ?_)
    · have hf := ift c1 hf
      refine lv_iload_n hx hb dX1_leastWornFree_49 rfl (lv_at hl 1 rfl) ?_
      cases hf
      exact vz_iret X hP hD hS dX1_leastWornFree_50
    · have hf := iff_ c1 hf
      refine lv_aload_n hx hb dX1_leastWornFree_12 rfl (lv_at hl 0 rfl) ?_
      refine va_get (D := D) (ci := 1) (v := .ref (a 7)) (C := RX1) (T := TX1) (N := 11) hx hb hts in_X1_leastWornFree_X1 hown hK hP 1 rfl rfl 5 (by decide) (hts _ (List.mem_of_getElem? (i := 2) rfl)) (fun _ h9 => h9) rfl dX1_leastWornFree_13 ?_
      refine lv_iload_n hx hb dX1_leastWornFree_16 rfl (lv_at hl 2 rfl) ?_
      obtain ⟨g2, hf⟩ := vgs hf
      refine va_iald hx hb hK hP 7 4 rfl rfl g2 dX1_leastWornFree_17 ?_
      refine lv_if_ne (tgt := 43) hx hb dX1_leastWornFree_18 (by decide) (fun c3 => ?_) (fun c3 => ?_)
      · have hf := iff_ c3 hf
        refine lv_iinc (v := x2 + (zI 1)) (lv' := [(2, .int (x2 + (zI 1))), (0, .ref (a 1)), (1, .int x1)]) hx hb dX1_leastWornFree_43 hl (k := 2) rfl rfl (by decide) rfl (fun ls hl => ?_)
        refine lv_goto (tgt := 4) hx hb dX1_leastWornFree_46 (by decide) ?_
        exact ih x1 (x2 + (zI 1)) u _ _ _ _ _ hf hP hD hS (lv_sub hl [1, 2, 0] rfl)
      · have hf := ift c3 hf
        refine lv_iload_n hx hb dX1_leastWornFree_21 rfl (lv_at hl 1 rfl) ?_
        refine lv_iconst (v := zI (-1)) hx hb dX1_leastWornFree_22 (by decide) ?_
        refine lv_icmp_eq (tgt := 41) hx hb dX1_leastWornFree_23 (by decide) (fun c4 => ?_) (fun c4 => ?_)
        · have hf := ift c4 hf
          refine lv_iload_n hx hb dX1_leastWornFree_41 rfl (lv_at hl 2 rfl) ?_
          refine lv_istore_n (lv' := [(1, .int x2), (0, .ref (a 1)), (2, .int x2)]) hx hb dX1_leastWornFree_42 rfl hl (by decide) rfl (fun ls hl => ?_)
          refine lv_iinc (v := x2 + (zI 1)) (lv' := [(2, .int (x2 + (zI 1))), (1, .int x2), (0, .ref (a 1))]) hx hb dX1_leastWornFree_43 hl (k := 2) rfl rfl (by decide) rfl (fun ls hl => ?_)
          refine lv_goto (tgt := 4) hx hb dX1_leastWornFree_46 (by decide) ?_
          exact ih x2 (x2 + (zI 1)) u _ _ _ _ _ hf hP hD hS (lv_sub hl [2, 1, 0] rfl)
        · have hf := iff_ c4 hf
          refine lv_aload_n hx hb dX1_leastWornFree_26 rfl (lv_at hl 0 rfl) ?_
          refine va_get (D := D) (ci := 1) (v := .ref (a 8)) (C := RX1) (T := TX1) (N := 11) hx hb hts in_X1_leastWornFree_X1 hown hK hP 1 rfl rfl 6 (by decide) (hts _ (List.mem_of_getElem? (i := 3) rfl)) (fun _ h9 => h9) rfl dX1_leastWornFree_27 ?_
          refine lv_iload_n hx hb dX1_leastWornFree_30 rfl (lv_at hl 2 rfl) ?_
          obtain ⟨g5, hf⟩ := vgs hf
          refine va_iald hx hb hK hP 8 5 rfl rfl g5 dX1_leastWornFree_31 ?_
          refine lv_aload_n hx hb dX1_leastWornFree_32 rfl (lv_at hl 0 rfl) ?_
          refine va_get (D := D) (ci := 1) (v := .ref (a 8)) (C := RX1) (T := TX1) (N := 11) hx hb hts in_X1_leastWornFree_X1 hown hK hP 1 rfl rfl 6 (by decide) (hts _ (List.mem_of_getElem? (i := 3) rfl)) (fun _ h9 => h9) rfl dX1_leastWornFree_33 ?_
          refine lv_iload_n hx hb dX1_leastWornFree_36 rfl (lv_at hl 1 rfl) ?_
          obtain ⟨g6, hf⟩ := vgs hf
          refine va_iald hx hb hK hP 8 5 rfl rfl g6 dX1_leastWornFree_37 ?_
          refine lv_icmp_ge (tgt := 43) hx hb dX1_leastWornFree_38 (by decide) (fun c7 => ?_) (fun c7 => ?_)
          · have hf := ift c7 hf
            refine lv_iinc (v := x2 + (zI 1)) (lv' := [(2, .int (x2 + (zI 1))), (0, .ref (a 1)), (1, .int x1)]) hx hb dX1_leastWornFree_43 hl (k := 2) rfl rfl (by decide) rfl (fun ls hl => ?_)
            refine lv_goto (tgt := 4) hx hb dX1_leastWornFree_46 (by decide) ?_
            exact ih x1 (x2 + (zI 1)) u _ _ _ _ _ hf hP hD hS (lv_sub hl [1, 2, 0] rfl)
          · have hf := iff_ c7 hf
            refine lv_iload_n hx hb dX1_leastWornFree_41 rfl (lv_at hl 2 rfl) ?_
            refine lv_istore_n (lv' := [(1, .int x2), (0, .ref (a 1)), (2, .int x2)]) hx hb dX1_leastWornFree_42 rfl hl (by decide) rfl (fun ls hl => ?_)
            refine lv_iinc (v := x2 + (zI 1)) (lv' := [(2, .int (x2 + (zI 1))), (1, .int x2), (0, .ref (a 1))]) hx hb dX1_leastWornFree_43 hl (k := 2) rfl rfl (by decide) rfl (fun ls hl => ?_)
            refine lv_goto (tgt := 4) hx hb dX1_leastWornFree_46 (by decide) ?_
            exact ih x2 (x2 + (zI 1)) u _ _ _ _ _ hf hP hD hS (lv_sub hl [2, 1, 0] rfl)
set_option maxHeartbeats 4000000 in
set_option maxRecDepth 100000 in
theorem lbX1_leastWornFree_e {K : Nat} (X : vzX D (XT cA) A wsX1_leastWornFree cX1_leastWornFree 3 (some .int) RX1 p s m args meth c) : ∀ (u : XU) (H : Heap) (locs : List Loc) (ls : Array Slot) (r : Int32) (u2 : XU), fX1_leastWornFree n K u = some (r, u2) → va_P D vwCl (XW a n cA u) H → va_D A (XW a n cA u) → va_S A s.heap H locs → lv_has ls 3 [(0, .ref (a 1))] → W p l e (headSpec wsX1_leastWornFree rmX1_leastWornFree).room s m args below meth c H locs 0 0 (MQ below (vzQ D (XT cA) (XW a n cA) A r u2) args s 0 0 A) (F0 m 0 ls []) := by
  obtain ⟨hx, hb, hr, hml, hown, hts, hlk, hN, hK, hA⟩ := id X
  intro u H locs ls r u2 hf hP hD hS hl
  unfold fX1_leastWornFree at hf
  refine lv_iconst (v := zI (-1)) hx hb dX1_leastWornFree_0 (by decide) ?_
  refine lv_istore_n (lv' := [(1, .int (zI (-1))), (0, .ref (a 1))]) hx hb dX1_leastWornFree_1 rfl hl (by decide) rfl (fun ls hl => ?_)
  refine lv_iconst (v := zI 0) hx hb dX1_leastWornFree_2 (by decide) ?_
  refine lv_istore_n (lv' := [(2, .int (zI 0)), (1, .int (zI (-1))), (0, .ref (a 1))]) hx hb dX1_leastWornFree_3 rfl hl (by decide) rfl (fun ls hl => ?_)
  exact lbX1_leastWornFree_4 X K (zI (-1)) (zI 0) u _ _ _ _ _ hf hP hD hS (lv_sub hl [2, 1, 0] rfl)
end
theorem kX1_leastWornFree {l : Launch} {D : va_G} {a n : Nat → Nat} {cA : Nat → ClassId} {K : Nat} {u : XU} {r : Int32} {u2 : XU} (h : fX1_leastWornFree n K u = some (r, u2)) : vzC l D (XT cA) (XW a n cA) yX1_leastWornFree wsX1_leastWornFree rmX1_leastWornFree [.ref (a 1)] u r u2 := vzC.of (by decide) rfl (Nat.le_of_ble_eq_true rfl) (fun p e s m below meth c A ls X hP hD hl => lbX1_leastWornFree_e X u s.heap [] ls r u2 h hP hD va_S.rf hl)
