abbrev rmX3_sectors : Room := { frames := 0, cells := 0, slots := 0, locals := 0 }
theorem in_X3_sectors_X3 : ∀ w ∈ u_ws RX3 TX3 16, w ∈ wsX3_sectors := fun _ h => List.mem_cons_of_mem _ (List.mem_append_right _ h)
def fX3_sectors (n : Nat → Nat) (K : Nat) (u : MU) : Option (Int32 × MU) := some ((zI 4) * ((mu_blk u) - (zI 3)), u)
section
variable {p : Program} {l : Launch} {e : Env} {s : State} {m : MethodId} {args : Array Value} {below : List Frame} {meth : Method} {c : Code} {D : va_G} {a n : Nat → Nat} {cA : Nat → ClassId} {A : Nat → Prop}
set_option maxHeartbeats 4000000 in
set_option maxRecDepth 100000 in
theorem lbX3_sectors_e {K : Nat} (X : vzX D (MT cA) A wsX3_sectors cX3_sectors 1 (some .int) RX3 p s m args meth c) : ∀ (u : MU) (H : Heap) (locs : List Loc) (ls : Array Slot) (r : Int32) (u2 : MU), fX3_sectors n K u = some (r, u2) → va_P D vwCl (MW a n cA u) H → va_D A (MW a n cA u) → va_S A s.heap H locs → lv_has ls 1 [(0, .ref (a 0))] → W p l e (headSpec wsX3_sectors rmX3_sectors).room s m args below meth c H locs 0 0 (MQ below (vzQ D (MT cA) (MW a n cA) A r u2) args s 0 0 A) (F0 m 0 ls []) := by
  obtain ⟨hx, hb, hr, hml, hown, hts, hlk, hN, hK, hA⟩ := id X
  intro u H locs ls r u2 hf hP hD hS hl
  unfold fX3_sectors at hf
  refine lv_iconst (v := zI 4) hx hb dX3_sectors_0 (by decide) ?_
  refine lv_aload_n hx hb dX3_sectors_1 rfl (lv_at hl 0 rfl) ?_
  refine va_get (D := D) (ci := 3) (v := .int (mu_blk u)) (C := RX3) (T := TX3) (N := 16) hx hb hts in_X3_sectors_X3 hown hK hP 0 rfl rfl 0 (by decide) (hts _ (List.mem_of_getElem? (i := 1) rfl)) (fun _ h9 => h9) rfl dX3_sectors_2 ?_
  refine lv_iconst (v := zI 3) hx hb dX3_sectors_5 (by decide) ?_
  refine lv_isub hx hb dX3_sectors_6 ?_
  refine lv_imul hx hb dX3_sectors_7 ?_
  cases hf
  exact vz_iret X hP hD hS dX3_sectors_8
end
theorem kX3_sectors {l : Launch} {D : va_G} {a n : Nat → Nat} {cA : Nat → ClassId} {K : Nat} {u : MU} {r : Int32} {u2 : MU} (h : fX3_sectors n K u = some (r, u2)) : vzC l D (MT cA) (MW a n cA) yX3_sectors wsX3_sectors rmX3_sectors [.ref (a 0)] u r u2 := vzC.of (by decide) rfl (Nat.le_of_ble_eq_true rfl) (fun p e s m below meth c A ls X hP hD hl => lbX3_sectors_e X u s.heap [] ls r u2 h hP hD va_S.rf hl)
abbrev rmX3_isSector : Room := { frames := 1, cells := 0, slots := 0, locals := 20 }
theorem in_X3_isSector_X3 : ∀ w ∈ u_ws RX3 TX3 16, w ∈ wsX3_isSector := fun _ h => List.mem_cons_of_mem _ (List.mem_append_right _ h)
def fX3_isSector (n : Nat → Nat) (K : Nat) (x1 : Int32) (u : MU) : Option (Int32 × MU) := if x1 < 0 then (some (zI 0, u)) else ((fX3_sectors n K u).bind fun z2 => (if z2.1 ≤ x1 then (some (zI 0, z2.2)) else (some (zI 1, z2.2))))
section
variable {p : Program} {l : Launch} {e : Env} {s : State} {m : MethodId} {args : Array Value} {below : List Frame} {meth : Method} {c : Code} {D : va_G} {a n : Nat → Nat} {cA : Nat → ClassId} {A : Nat → Prop}
set_option maxHeartbeats 4000000 in
set_option maxRecDepth 100000 in
theorem lbX3_isSector_e {K : Nat} (X : vzX D (MT cA) A wsX3_isSector cX3_isSector 2 (some .boolean) RX3 p s m args meth c) : ∀ (x1 : Int32) (u : MU) (H : Heap) (locs : List Loc) (ls : Array Slot) (r : Int32) (u2 : MU), fX3_isSector n K x1 u = some (r, u2) → va_P D vwCl (MW a n cA u) H → va_D A (MW a n cA u) → va_S A s.heap H locs → lv_has ls 2 [(0, .ref (a 0)), (1, .int x1)] → W p l e (headSpec wsX3_isSector rmX3_isSector).room s m args below meth c H locs 0 0 (MQ below (vzQ D (MT cA) (MW a n cA) A r u2) args s 0 0 A) (F0 m 0 ls []) := by
  obtain ⟨hx, hb, hr, hml, hown, hts, hlk, hN, hK, hA⟩ := id X
  intro x1 u H locs ls r u2 hf hP hD hS hl
  unfold fX3_isSector at hf
  refine lv_iload_n hx hb dX3_isSector_0 rfl (lv_at hl 1 rfl) ?_
  refine lv_if_lt (tgt := 16) hx hb dX3_isSector_1 (by decide) (fun c1 => ?_) (fun c1 => ?_)
  · have hf := ift c1 hf
    refine lv_iconst (v := zI 0) hx hb dX3_isSector_16 (by decide) ?_
    cases hf
    exact vz_zret X rfl hP hD hS dX3_isSector_17
  · have hf := iff_ c1 hf
    refine lv_iload_n hx hb dX3_isSector_4 rfl (lv_at hl 1 rfl) ?_
    refine lv_aload_n hx hb dX3_isSector_5 rfl (lv_at hl 0 rfl) ?_
    obtain ⟨z2, hz3, hf⟩ := bd hf
    refine vz_call (rest := [.int x1]) X (kX3_sectors hz3) (cwV 0 hts gX3_isSector_X3_sectors rfl rfl rfl (by decide +kernel) ⟨Nat.le_of_ble_eq_true rfl, Nat.le_of_ble_eq_true rfl⟩) 0 3 rfl rfl rfl hl.1 rfl (Nat.le_of_ble_eq_true rfl) dX3_isSector_6 ⟨Nat.zero_le _, Nat.zero_le _⟩ hP hD hS (fun H locs hP hD hS => ?_)
    refine lv_icmp_ge (tgt := 16) hx hb dX3_isSector_9 (by decide) (fun c4 => ?_) (fun c4 => ?_)
    · have hf := ift c4 hf
      refine lv_iconst (v := zI 0) hx hb dX3_isSector_16 (by decide) ?_
      cases hf
      exact vz_zret X rfl hP hD hS dX3_isSector_17
    · have hf := iff_ c4 hf
      refine lv_iconst (v := zI 1) hx hb dX3_isSector_12 (by decide) ?_
      refine lv_goto (tgt := 17) hx hb dX3_isSector_13 (by decide) ?_
      cases hf
      exact vz_zret X rfl hP hD hS dX3_isSector_17
end
theorem kX3_isSector {l : Launch} {D : va_G} {a n : Nat → Nat} {cA : Nat → ClassId} {K : Nat} {x1 : Int32} {u : MU} {r : Int32} {u2 : MU} (h : fX3_isSector n K x1 u = some (r, u2)) : vzC l D (MT cA) (MW a n cA) yX3_isSector wsX3_isSector rmX3_isSector [.ref (a 0), .int x1] u r u2 := vzC.of (by decide) rfl (Nat.le_of_ble_eq_true rfl) (fun p e s m below meth c A ls X hP hD hl => lbX3_isSector_e X x1 u s.heap [] ls r u2 h hP hD va_S.rf hl)
abbrev rmX3_isBlock : Room := { frames := 0, cells := 0, slots := 0, locals := 0 }
theorem in_X3_isBlock_X3 : ∀ w ∈ u_ws RX3 TX3 16, w ∈ wsX3_isBlock := fun _ h => List.mem_cons_of_mem _ (List.mem_append_right _ h)
def fX3_isBlock (n : Nat → Nat) (K : Nat) (x1 : Int32) (u : MU) : Option (Int32 × MU) := if x1 < 0 then (some (zI 0, u)) else (if (mu_blk u) ≤ x1 then (some (zI 0, u)) else (some (zI 1, u)))
section
variable {p : Program} {l : Launch} {e : Env} {s : State} {m : MethodId} {args : Array Value} {below : List Frame} {meth : Method} {c : Code} {D : va_G} {a n : Nat → Nat} {cA : Nat → ClassId} {A : Nat → Prop}
set_option maxHeartbeats 4000000 in
set_option maxRecDepth 100000 in
theorem lbX3_isBlock_e {K : Nat} (X : vzX D (MT cA) A wsX3_isBlock cX3_isBlock 2 (some .boolean) RX3 p s m args meth c) : ∀ (x1 : Int32) (u : MU) (H : Heap) (locs : List Loc) (ls : Array Slot) (r : Int32) (u2 : MU), fX3_isBlock n K x1 u = some (r, u2) → va_P D vwCl (MW a n cA u) H → va_D A (MW a n cA u) → va_S A s.heap H locs → lv_has ls 2 [(0, .ref (a 0)), (1, .int x1)] → W p l e (headSpec wsX3_isBlock rmX3_isBlock).room s m args below meth c H locs 0 0 (MQ below (vzQ D (MT cA) (MW a n cA) A r u2) args s 0 0 A) (F0 m 0 ls []) := by
  obtain ⟨hx, hb, hr, hml, hown, hts, hlk, hN, hK, hA⟩ := id X
  intro x1 u H locs ls r u2 hf hP hD hS hl
  unfold fX3_isBlock at hf
  refine lv_iload_n hx hb dX3_isBlock_0 rfl (lv_at hl 1 rfl) ?_
  refine lv_if_lt (tgt := 16) hx hb dX3_isBlock_1 (by decide) (fun c1 => ?_) (fun c1 => ?_)
  · have hf := ift c1 hf
    refine lv_iconst (v := zI 0) hx hb dX3_isBlock_16 (by decide) ?_
    cases hf
    exact vz_zret X rfl hP hD hS dX3_isBlock_17
  · have hf := iff_ c1 hf
    refine lv_iload_n hx hb dX3_isBlock_4 rfl (lv_at hl 1 rfl) ?_
    refine lv_aload_n hx hb dX3_isBlock_5 rfl (lv_at hl 0 rfl) ?_
    refine va_get (D := D) (ci := 3) (v := .int (mu_blk u)) (C := RX3) (T := TX3) (N := 16) hx hb hts in_X3_isBlock_X3 hown hK hP 0 rfl rfl 0 (by decide) (hts _ (List.mem_of_getElem? (i := 1) rfl)) (fun _ h9 => h9) rfl dX3_isBlock_6 ?_
    refine lv_icmp_ge (tgt := 16) hx hb dX3_isBlock_9 (by decide) (fun c2 => ?_) (fun c2 => ?_)
    · have hf := ift c2 hf
      refine lv_iconst (v := zI 0) hx hb dX3_isBlock_16 (by decide) ?_
      cases hf
      exact vz_zret X rfl hP hD hS dX3_isBlock_17
    · have hf := iff_ c2 hf
      refine lv_iconst (v := zI 1) hx hb dX3_isBlock_12 (by decide) ?_
      refine lv_goto (tgt := 17) hx hb dX3_isBlock_13 (by decide) ?_
      cases hf
      exact vz_zret X rfl hP hD hS dX3_isBlock_17
end
theorem kX3_isBlock {l : Launch} {D : va_G} {a n : Nat → Nat} {cA : Nat → ClassId} {K : Nat} {x1 : Int32} {u : MU} {r : Int32} {u2 : MU} (h : fX3_isBlock n K x1 u = some (r, u2)) : vzC l D (MT cA) (MW a n cA) yX3_isBlock wsX3_isBlock rmX3_isBlock [.ref (a 0), .int x1] u r u2 := vzC.of (by decide) rfl (Nat.le_of_ble_eq_true rfl) (fun p e s m below meth c A ls X hP hD hl => lbX3_isBlock_e X x1 u s.heap [] ls r u2 h hP hD va_S.rf hl)
abbrev rmX3_isPlace : Room := { frames := 0, cells := 0, slots := 0, locals := 0 }
theorem in_X3_isPlace_X3 : ∀ w ∈ u_ws RX3 TX3 16, w ∈ wsX3_isPlace := fun _ h => List.mem_cons_of_mem _ (List.mem_append_right _ h)
def fX3_isPlace (n : Nat → Nat) (K : Nat) (x1 : Int32) (u : MU) : Option (Int32 × MU) := if x1 < 0 then (some (zI 0, u)) else (if ((zI 4) * (mu_blk u)) ≤ x1 then (some (zI 0, u)) else (some (zI 1, u)))
section
variable {p : Program} {l : Launch} {e : Env} {s : State} {m : MethodId} {args : Array Value} {below : List Frame} {meth : Method} {c : Code} {D : va_G} {a n : Nat → Nat} {cA : Nat → ClassId} {A : Nat → Prop}
set_option maxHeartbeats 4000000 in
set_option maxRecDepth 100000 in
theorem lbX3_isPlace_e {K : Nat} (X : vzX D (MT cA) A wsX3_isPlace cX3_isPlace 2 (some .boolean) RX3 p s m args meth c) : ∀ (x1 : Int32) (u : MU) (H : Heap) (locs : List Loc) (ls : Array Slot) (r : Int32) (u2 : MU), fX3_isPlace n K x1 u = some (r, u2) → va_P D vwCl (MW a n cA u) H → va_D A (MW a n cA u) → va_S A s.heap H locs → lv_has ls 2 [(0, .ref (a 0)), (1, .int x1)] → W p l e (headSpec wsX3_isPlace rmX3_isPlace).room s m args below meth c H locs 0 0 (MQ below (vzQ D (MT cA) (MW a n cA) A r u2) args s 0 0 A) (F0 m 0 ls []) := by
  obtain ⟨hx, hb, hr, hml, hown, hts, hlk, hN, hK, hA⟩ := id X
  intro x1 u H locs ls r u2 hf hP hD hS hl
  unfold fX3_isPlace at hf
  refine lv_iload_n hx hb dX3_isPlace_0 rfl (lv_at hl 1 rfl) ?_
  refine lv_if_lt (tgt := 18) hx hb dX3_isPlace_1 (by decide) (fun c1 => ?_) (fun c1 => ?_)
  · have hf := ift c1 hf
    refine lv_iconst (v := zI 0) hx hb dX3_isPlace_18 (by decide) ?_
    cases hf
    exact vz_zret X rfl hP hD hS dX3_isPlace_19
  · have hf := iff_ c1 hf
    refine lv_iload_n hx hb dX3_isPlace_4 rfl (lv_at hl 1 rfl) ?_
    refine lv_iconst (v := zI 4) hx hb dX3_isPlace_5 (by decide) ?_
    refine lv_aload_n hx hb dX3_isPlace_6 rfl (lv_at hl 0 rfl) ?_
    refine va_get (D := D) (ci := 3) (v := .int (mu_blk u)) (C := RX3) (T := TX3) (N := 16) hx hb hts in_X3_isPlace_X3 hown hK hP 0 rfl rfl 0 (by decide) (hts _ (List.mem_of_getElem? (i := 1) rfl)) (fun _ h9 => h9) rfl dX3_isPlace_7 ?_
    refine lv_imul hx hb dX3_isPlace_10 ?_
    refine lv_icmp_ge (tgt := 18) hx hb dX3_isPlace_11 (by decide) (fun c2 => ?_) (fun c2 => ?_)
    · have hf := ift c2 hf
      refine lv_iconst (v := zI 0) hx hb dX3_isPlace_18 (by decide) ?_
      cases hf
      exact vz_zret X rfl hP hD hS dX3_isPlace_19
    · have hf := iff_ c2 hf
      refine lv_iconst (v := zI 1) hx hb dX3_isPlace_14 (by decide) ?_
      refine lv_goto (tgt := 19) hx hb dX3_isPlace_15 (by decide) ?_
      cases hf
      exact vz_zret X rfl hP hD hS dX3_isPlace_19
end
theorem kX3_isPlace {l : Launch} {D : va_G} {a n : Nat → Nat} {cA : Nat → ClassId} {K : Nat} {x1 : Int32} {u : MU} {r : Int32} {u2 : MU} (h : fX3_isPlace n K x1 u = some (r, u2)) : vzC l D (MT cA) (MW a n cA) yX3_isPlace wsX3_isPlace rmX3_isPlace [.ref (a 0), .int x1] u r u2 := vzC.of (by decide) rfl (Nat.le_of_ble_eq_true rfl) (fun p e s m below meth c A ls X hP hD hl => lbX3_isPlace_e X x1 u s.heap [] ls r u2 h hP hD va_S.rf hl)
abbrev rmX3_programmed : Room := { frames := 0, cells := 0, slots := 0, locals := 0 }
theorem in_X3_programmed_X3 : ∀ w ∈ u_ws RX3 TX3 16, w ∈ wsX3_programmed := fun _ h => List.mem_cons_of_mem _ (List.mem_append_right _ h)
def fX3_programmed_4 (n : Nat → Nat) (K : Nat) : Nat → Int32 → Int32 → Int32 → MU → Option (Int32 × MU)
  | 0, _, _, _, _ => none
  | N + 1, x1, x2, x3, u => if (zI 4) ≤ x3 then (some (x2, u)) else (vg (((zI 4) * x1) + x3) (n 1) (if ((mu_sec u) ((((zI 4) * x1) + x3)).toNatClampNeg) = (zI (-1)) then (fX3_programmed_4 n K N x1 (x2 + (zI 0)) (x3 + (zI 1)) u) else (fX3_programmed_4 n K N x1 (x2 + (zI 1)) (x3 + (zI 1)) u)))
def fX3_programmed (n : Nat → Nat) (K : Nat) (x1 : Int32) (u : MU) : Option (Int32 × MU) := fX3_programmed_4 n K K x1 (zI 0) (zI 0) u
section
variable {p : Program} {l : Launch} {e : Env} {s : State} {m : MethodId} {args : Array Value} {below : List Frame} {meth : Method} {c : Code} {D : va_G} {a n : Nat → Nat} {cA : Nat → ClassId} {A : Nat → Prop}
set_option maxHeartbeats 4000000 in
set_option maxRecDepth 100000 in
theorem lbX3_programmed_4 {K : Nat} (X : vzX D (MT cA) A wsX3_programmed cX3_programmed 4 (some .int) RX3 p s m args meth c) : ∀ (N : Nat) (x1 x2 x3 : Int32) (u : MU) (H : Heap) (locs : List Loc) (ls : Array Slot) (r : Int32) (u2 : MU), fX3_programmed_4 n K N x1 x2 x3 u = some (r, u2) → va_P D vwCl (MW a n cA u) H → va_D A (MW a n cA u) → va_S A s.heap H locs → lv_has ls 4 [(0, .ref (a 0)), (1, .int x1), (2, .int x2), (3, .int x3)] → W p l e (headSpec wsX3_programmed rmX3_programmed).room s m args below meth c H locs 0 0 (MQ below (vzQ D (MT cA) (MW a n cA) A r u2) args s 0 0 A) (F0 m 4 ls []) := by
  obtain ⟨hx, hb, hr, hml, hown, hts, hlk, hN, hK, hA⟩ := id X
  intro N
  induction N with
  | zero =>
    intro x1 x2 x3 u H locs ls r u2 hf
    cases hf
  | succ N ih =>
    intro x1 x2 x3 u H locs ls r u2 hf hP hD hS hl
    rw [fX3_programmed_4] at hf
    refine lv_iload_n hx hb dX3_programmed_4 rfl (lv_at hl 3 rfl) ?_
    refine lv_iconst (v := zI 4) hx hb dX3_programmed_5 (by decide) ?_
    refine lv_icmp_ge (tgt := 37) hx hb dX3_programmed_6 (by decide) (fun c1 => ?_) (fun c1 => ?_)
    · have hf := ift c1 hf
      refine lv_iload_n hx hb dX3_programmed_37 rfl (lv_at hl 2 rfl) ?_
      cases hf
      exact vz_iret X hP hD hS dX3_programmed_38
    · have hf := iff_ c1 hf
      refine lv_iload_n hx hb dX3_programmed_9 rfl (lv_at hl 2 rfl) ?_
      refine lv_aload_n hx hb dX3_programmed_10 rfl (lv_at hl 0 rfl) ?_
      refine va_get (D := D) (ci := 3) (v := .ref (a 1)) (C := RX3) (T := TX3) (N := 16) hx hb hts in_X3_programmed_X3 hown hK hP 0 rfl rfl 2 (by decide) (hts _ (List.mem_of_getElem? (i := 1) rfl)) (fun _ h9 => h9) rfl dX3_programmed_11 ?_
      refine lv_iconst (v := zI 4) hx hb dX3_programmed_14 (by decide) ?_
      refine lv_iload_n hx hb dX3_programmed_15 rfl (lv_at hl 1 rfl) ?_
      refine lv_imul hx hb dX3_programmed_16 ?_
      refine lv_iload_n hx hb dX3_programmed_17 rfl (lv_at hl 3 rfl) ?_
      refine lv_iadd hx hb dX3_programmed_18 ?_
      obtain ⟨g2, hf⟩ := vgs hf
      refine va_iald hx hb hK hP 1 0 rfl rfl g2 dX3_programmed_19 ?_
      refine lv_iconst (v := zI (-1)) hx hb dX3_programmed_20 (by decide) ?_
      refine lv_icmp_ne (tgt := 28) hx hb dX3_programmed_21 (by decide) (fun c3 => ?_) (fun c3 => ?_)
      · have hf := iff_ c3 hf
        refine lv_iconst (v := zI 1) hx hb dX3_programmed_28 (by decide) ?_
        refine lv_iadd hx hb dX3_programmed_29 ?_
        refine lv_istore_n (lv' := [(2, .int (x2 + (zI 1))), (0, .ref (a 0)), (1, .int x1), (3, .int x3)]) hx hb dX3_programmed_30 rfl hl (by decide) rfl (fun ls hl => ?_)
        refine lv_iinc (v := x3 + (zI 1)) (lv' := [(3, .int (x3 + (zI 1))), (2, .int (x2 + (zI 1))), (0, .ref (a 0)), (1, .int x1)]) hx hb dX3_programmed_31 hl (k := 3) rfl rfl (by decide) rfl (fun ls hl => ?_)
        refine lv_goto (tgt := 4) hx hb dX3_programmed_34 (by decide) ?_
        exact ih x1 (x2 + (zI 1)) (x3 + (zI 1)) u _ _ _ _ _ hf hP hD hS (lv_sub hl [2, 3, 1, 0] rfl)
      · have hf := ift c3 hf
        refine lv_iconst (v := zI 0) hx hb dX3_programmed_24 (by decide) ?_
        refine lv_goto (tgt := 29) hx hb dX3_programmed_25 (by decide) ?_
        refine lv_iadd hx hb dX3_programmed_29 ?_
        refine lv_istore_n (lv' := [(2, .int (x2 + (zI 0))), (0, .ref (a 0)), (1, .int x1), (3, .int x3)]) hx hb dX3_programmed_30 rfl hl (by decide) rfl (fun ls hl => ?_)
        refine lv_iinc (v := x3 + (zI 1)) (lv' := [(3, .int (x3 + (zI 1))), (2, .int (x2 + (zI 0))), (0, .ref (a 0)), (1, .int x1)]) hx hb dX3_programmed_31 hl (k := 3) rfl rfl (by decide) rfl (fun ls hl => ?_)
        refine lv_goto (tgt := 4) hx hb dX3_programmed_34 (by decide) ?_
        exact ih x1 (x2 + (zI 0)) (x3 + (zI 1)) u _ _ _ _ _ hf hP hD hS (lv_sub hl [2, 3, 1, 0] rfl)
set_option maxHeartbeats 4000000 in
set_option maxRecDepth 100000 in
theorem lbX3_programmed_e {K : Nat} (X : vzX D (MT cA) A wsX3_programmed cX3_programmed 4 (some .int) RX3 p s m args meth c) : ∀ (x1 : Int32) (u : MU) (H : Heap) (locs : List Loc) (ls : Array Slot) (r : Int32) (u2 : MU), fX3_programmed n K x1 u = some (r, u2) → va_P D vwCl (MW a n cA u) H → va_D A (MW a n cA u) → va_S A s.heap H locs → lv_has ls 4 [(0, .ref (a 0)), (1, .int x1)] → W p l e (headSpec wsX3_programmed rmX3_programmed).room s m args below meth c H locs 0 0 (MQ below (vzQ D (MT cA) (MW a n cA) A r u2) args s 0 0 A) (F0 m 0 ls []) := by
  obtain ⟨hx, hb, hr, hml, hown, hts, hlk, hN, hK, hA⟩ := id X
  intro x1 u H locs ls r u2 hf hP hD hS hl
  unfold fX3_programmed at hf
  refine lv_iconst (v := zI 0) hx hb dX3_programmed_0 (by decide) ?_
  refine lv_istore_n (lv' := [(2, .int (zI 0)), (0, .ref (a 0)), (1, .int x1)]) hx hb dX3_programmed_1 rfl hl (by decide) rfl (fun ls hl => ?_)
  refine lv_iconst (v := zI 0) hx hb dX3_programmed_2 (by decide) ?_
  refine lv_istore_n (lv' := [(3, .int (zI 0)), (2, .int (zI 0)), (0, .ref (a 0)), (1, .int x1)]) hx hb dX3_programmed_3 rfl hl (by decide) rfl (fun ls hl => ?_)
  exact lbX3_programmed_4 X K x1 (zI 0) (zI 0) u _ _ _ _ _ hf hP hD hS (lv_sub hl [2, 3, 1, 0] rfl)
end
theorem kX3_programmed {l : Launch} {D : va_G} {a n : Nat → Nat} {cA : Nat → ClassId} {K : Nat} {x1 : Int32} {u : MU} {r : Int32} {u2 : MU} (h : fX3_programmed n K x1 u = some (r, u2)) : vzC l D (MT cA) (MW a n cA) yX3_programmed wsX3_programmed rmX3_programmed [.ref (a 0), .int x1] u r u2 := vzC.of (by decide) rfl (Nat.le_of_ble_eq_true rfl) (fun p e s m below meth c A ls X hP hD hl => lbX3_programmed_e X x1 u s.heap [] ls r u2 h hP hD va_S.rf hl)
abbrev rmX3_newest : Room := { frames := 0, cells := 0, slots := 0, locals := 0 }
theorem in_X3_newest_X3 : ∀ w ∈ u_ws RX3 TX3 16, w ∈ wsX3_newest := fun _ h => List.mem_cons_of_mem _ (List.mem_append_right _ h)
def fX3_newest_4 (n : Nat → Nat) (K : Nat) : Nat → Int32 → Int32 → Int32 → MU → Option (Int32 × MU)
  | 0, _, _, _, _ => none
  | N + 1, x1, x2, x3, u => if ((zI 4) * (mu_blk u)) ≤ x3 then (some (x2, u)) else (vg x3 (n 1) (if ((mu_sec u) x3.toNatClampNeg) = x1 then (if x2 = (zI (-1)) then (fX3_newest_4 n K N x1 x3 (x3 + (zI 1)) u) else (vg x3 (n 3) (vg x2 (n 3) (if ((mu_ser u) x3.toNatClampNeg) ≤ ((mu_ser u) x2.toNatClampNeg) then (fX3_newest_4 n K N x1 x2 (x3 + (zI 1)) u) else (fX3_newest_4 n K N x1 x3 (x3 + (zI 1)) u))))) else (fX3_newest_4 n K N x1 x2 (x3 + (zI 1)) u)))
def fX3_newest (n : Nat → Nat) (K : Nat) (x1 : Int32) (u : MU) : Option (Int32 × MU) := fX3_newest_4 n K K x1 (zI (-1)) (zI 0) u
section
variable {p : Program} {l : Launch} {e : Env} {s : State} {m : MethodId} {args : Array Value} {below : List Frame} {meth : Method} {c : Code} {D : va_G} {a n : Nat → Nat} {cA : Nat → ClassId} {A : Nat → Prop}
set_option maxHeartbeats 4000000 in
set_option maxRecDepth 100000 in
theorem lbX3_newest_4 {K : Nat} (X : vzX D (MT cA) A wsX3_newest cX3_newest 4 (some .int) RX3 p s m args meth c) : ∀ (N : Nat) (x1 x2 x3 : Int32) (u : MU) (H : Heap) (locs : List Loc) (ls : Array Slot) (r : Int32) (u2 : MU), fX3_newest_4 n K N x1 x2 x3 u = some (r, u2) → va_P D vwCl (MW a n cA u) H → va_D A (MW a n cA u) → va_S A s.heap H locs → lv_has ls 4 [(0, .ref (a 0)), (1, .int x1), (2, .int x2), (3, .int x3)] → W p l e (headSpec wsX3_newest rmX3_newest).room s m args below meth c H locs 0 0 (MQ below (vzQ D (MT cA) (MW a n cA) A r u2) args s 0 0 A) (F0 m 4 ls []) := by
  obtain ⟨hx, hb, hr, hml, hown, hts, hlk, hN, hK, hA⟩ := id X
  intro N
  induction N with
  | zero =>
    intro x1 x2 x3 u H locs ls r u2 hf
    cases hf
  | succ N ih =>
    intro x1 x2 x3 u H locs ls r u2 hf hP hD hS hl
    rw [fX3_newest_4] at hf
    refine lv_iload_n hx hb dX3_newest_4 rfl (lv_at hl 3 rfl) ?_
    refine lv_iconst (v := zI 4) hx hb dX3_newest_5 (by decide) ?_
    refine lv_aload_n hx hb dX3_newest_6 rfl (lv_at hl 0 rfl) ?_
    refine va_get (D := D) (ci := 3) (v := .int (mu_blk u)) (C := RX3) (T := TX3) (N := 16) hx hb hts in_X3_newest_X3 hown hK hP 0 rfl rfl 0 (by decide) (hts _ (List.mem_of_getElem? (i := 1) rfl)) (fun _ h9 => h9) rfl dX3_newest_7 ?_
    refine lv_imul hx hb dX3_newest_10 ?_
    refine lv_icmp_ge (tgt := 52) hx hb dX3_newest_11 (by decide) (fun c1 => ?_) (fun c1 => ?_)
    · have hf := ift c1 hf
      refine lv_iload_n hx hb dX3_newest_52 rfl (lv_at hl 2 rfl) ?_
      cases hf
      exact vz_iret X hP hD hS dX3_newest_53
    · have hf := iff_ c1 hf
      refine lv_aload_n hx hb dX3_newest_14 rfl (lv_at hl 0 rfl) ?_
      refine va_get (D := D) (ci := 3) (v := .ref (a 1)) (C := RX3) (T := TX3) (N := 16) hx hb hts in_X3_newest_X3 hown hK hP 0 rfl rfl 2 (by decide) (hts _ (List.mem_of_getElem? (i := 2) rfl)) (fun _ h9 => h9) rfl dX3_newest_15 ?_
      refine lv_iload_n hx hb dX3_newest_18 rfl (lv_at hl 3 rfl) ?_
      obtain ⟨g2, hf⟩ := vgs hf
      refine va_iald hx hb hK hP 1 0 rfl rfl g2 dX3_newest_19 ?_
      refine lv_iload_n hx hb dX3_newest_20 rfl (lv_at hl 1 rfl) ?_
      refine lv_icmp_ne (tgt := 46) hx hb dX3_newest_21 (by decide) (fun c3 => ?_) (fun c3 => ?_)
      · have hf := iff_ c3 hf
        refine lv_iinc (v := x3 + (zI 1)) (lv' := [(3, .int (x3 + (zI 1))), (0, .ref (a 0)), (1, .int x1), (2, .int x2)]) hx hb dX3_newest_46 hl (k := 3) rfl rfl (by decide) rfl (fun ls hl => ?_)
        refine lv_goto (tgt := 4) hx hb dX3_newest_49 (by decide) ?_
        exact ih x1 x2 (x3 + (zI 1)) u _ _ _ _ _ hf hP hD hS (lv_sub hl [1, 2, 3, 0] rfl)
      · have hf := ift c3 hf
        refine lv_iload_n hx hb dX3_newest_24 rfl (lv_at hl 2 rfl) ?_
        refine lv_iconst (v := zI (-1)) hx hb dX3_newest_25 (by decide) ?_
        refine lv_icmp_eq (tgt := 44) hx hb dX3_newest_26 (by decide) (fun c4 => ?_) (fun c4 => ?_)
        · have hf := ift c4 hf
          refine lv_iload_n hx hb dX3_newest_44 rfl (lv_at hl 3 rfl) ?_
          refine lv_istore_n (lv' := [(2, .int x3), (0, .ref (a 0)), (1, .int x1), (3, .int x3)]) hx hb dX3_newest_45 rfl hl (by decide) rfl (fun ls hl => ?_)
          refine lv_iinc (v := x3 + (zI 1)) (lv' := [(3, .int (x3 + (zI 1))), (2, .int x3), (0, .ref (a 0)), (1, .int x1)]) hx hb dX3_newest_46 hl (k := 3) rfl rfl (by decide) rfl (fun ls hl => ?_)
          refine lv_goto (tgt := 4) hx hb dX3_newest_49 (by decide) ?_
          exact ih x1 x3 (x3 + (zI 1)) u _ _ _ _ _ hf hP hD hS (lv_sub hl [2, 3, 1, 0] rfl)
        · have hf := iff_ c4 hf
          refine lv_aload_n hx hb dX3_newest_29 rfl (lv_at hl 0 rfl) ?_
          refine va_get (D := D) (ci := 3) (v := .ref (a 3)) (C := RX3) (T := TX3) (N := 16) hx hb hts in_X3_newest_X3 hown hK hP 0 rfl rfl 4 (by decide) (hts _ (List.mem_of_getElem? (i := 3) rfl)) (fun _ h9 => h9) rfl dX3_newest_30 ?_
          refine lv_iload_n hx hb dX3_newest_33 rfl (lv_at hl 3 rfl) ?_
          obtain ⟨g5, hf⟩ := vgs hf
          refine va_iald hx hb hK hP 3 2 rfl rfl g5 dX3_newest_34 ?_
          refine lv_aload_n hx hb dX3_newest_35 rfl (lv_at hl 0 rfl) ?_
          refine va_get (D := D) (ci := 3) (v := .ref (a 3)) (C := RX3) (T := TX3) (N := 16) hx hb hts in_X3_newest_X3 hown hK hP 0 rfl rfl 4 (by decide) (hts _ (List.mem_of_getElem? (i := 3) rfl)) (fun _ h9 => h9) rfl dX3_newest_36 ?_
          refine lv_iload_n hx hb dX3_newest_39 rfl (lv_at hl 2 rfl) ?_
          obtain ⟨g6, hf⟩ := vgs hf
          refine va_iald hx hb hK hP 3 2 rfl rfl g6 dX3_newest_40 ?_
          refine lv_icmp_le (tgt := 46) hx hb dX3_newest_41 (by decide) (fun c7 => ?_) (fun c7 => ?_)
          · have hf := ift c7 hf
            refine lv_iinc (v := x3 + (zI 1)) (lv' := [(3, .int (x3 + (zI 1))), (0, .ref (a 0)), (1, .int x1), (2, .int x2)]) hx hb dX3_newest_46 hl (k := 3) rfl rfl (by decide) rfl (fun ls hl => ?_)
            refine lv_goto (tgt := 4) hx hb dX3_newest_49 (by decide) ?_
            exact ih x1 x2 (x3 + (zI 1)) u _ _ _ _ _ hf hP hD hS (lv_sub hl [1, 2, 3, 0] rfl)
          · have hf := iff_ c7 hf
            refine lv_iload_n hx hb dX3_newest_44 rfl (lv_at hl 3 rfl) ?_
            refine lv_istore_n (lv' := [(2, .int x3), (0, .ref (a 0)), (1, .int x1), (3, .int x3)]) hx hb dX3_newest_45 rfl hl (by decide) rfl (fun ls hl => ?_)
            refine lv_iinc (v := x3 + (zI 1)) (lv' := [(3, .int (x3 + (zI 1))), (2, .int x3), (0, .ref (a 0)), (1, .int x1)]) hx hb dX3_newest_46 hl (k := 3) rfl rfl (by decide) rfl (fun ls hl => ?_)
            refine lv_goto (tgt := 4) hx hb dX3_newest_49 (by decide) ?_
            exact ih x1 x3 (x3 + (zI 1)) u _ _ _ _ _ hf hP hD hS (lv_sub hl [2, 3, 1, 0] rfl)
set_option maxHeartbeats 4000000 in
set_option maxRecDepth 100000 in
theorem lbX3_newest_e {K : Nat} (X : vzX D (MT cA) A wsX3_newest cX3_newest 4 (some .int) RX3 p s m args meth c) : ∀ (x1 : Int32) (u : MU) (H : Heap) (locs : List Loc) (ls : Array Slot) (r : Int32) (u2 : MU), fX3_newest n K x1 u = some (r, u2) → va_P D vwCl (MW a n cA u) H → va_D A (MW a n cA u) → va_S A s.heap H locs → lv_has ls 4 [(0, .ref (a 0)), (1, .int x1)] → W p l e (headSpec wsX3_newest rmX3_newest).room s m args below meth c H locs 0 0 (MQ below (vzQ D (MT cA) (MW a n cA) A r u2) args s 0 0 A) (F0 m 0 ls []) := by
  obtain ⟨hx, hb, hr, hml, hown, hts, hlk, hN, hK, hA⟩ := id X
  intro x1 u H locs ls r u2 hf hP hD hS hl
  unfold fX3_newest at hf
  refine lv_iconst (v := zI (-1)) hx hb dX3_newest_0 (by decide) ?_
  refine lv_istore_n (lv' := [(2, .int (zI (-1))), (0, .ref (a 0)), (1, .int x1)]) hx hb dX3_newest_1 rfl hl (by decide) rfl (fun ls hl => ?_)
  refine lv_iconst (v := zI 0) hx hb dX3_newest_2 (by decide) ?_
  refine lv_istore_n (lv' := [(3, .int (zI 0)), (2, .int (zI (-1))), (0, .ref (a 0)), (1, .int x1)]) hx hb dX3_newest_3 rfl hl (by decide) rfl (fun ls hl => ?_)
  exact lbX3_newest_4 X K x1 (zI (-1)) (zI 0) u _ _ _ _ _ hf hP hD hS (lv_sub hl [2, 3, 1, 0] rfl)
end
theorem kX3_newest {l : Launch} {D : va_G} {a n : Nat → Nat} {cA : Nat → ClassId} {K : Nat} {x1 : Int32} {u : MU} {r : Int32} {u2 : MU} (h : fX3_newest n K x1 u = some (r, u2)) : vzC l D (MT cA) (MW a n cA) yX3_newest wsX3_newest rmX3_newest [.ref (a 0), .int x1] u r u2 := vzC.of (by decide) rfl (Nat.le_of_ble_eq_true rfl) (fun p e s m below meth c A ls X hP hD hl => lbX3_newest_e X x1 u s.heap [] ls r u2 h hP hD va_S.rf hl)
abbrev rmX3_isValid : Room := { frames := 1, cells := 0, slots := 0, locals := 23 }
theorem in_X3_isValid_X3 : ∀ w ∈ u_ws RX3 TX3 16, w ∈ wsX3_isValid := fun _ h => List.mem_cons_of_mem _ (List.mem_append_right _ h)
def fX3_isValid (n : Nat → Nat) (K : Nat) (x1 : Int32) (u : MU) : Option (Int32 × MU) := vg x1 (n 1) (if ((mu_sec u) x1.toNatClampNeg) = (zI (-1)) then (some (zI 0, u)) else (vg x1 (n 1) ((fX3_newest n K ((mu_sec u) x1.toNatClampNeg) u).bind fun z4 => (if z4.1 = x1 then (some (zI 1, z4.2)) else (some (zI 0, z4.2))))))
section
variable {p : Program} {l : Launch} {e : Env} {s : State} {m : MethodId} {args : Array Value} {below : List Frame} {meth : Method} {c : Code} {D : va_G} {a n : Nat → Nat} {cA : Nat → ClassId} {A : Nat → Prop}
set_option maxHeartbeats 4000000 in
set_option maxRecDepth 100000 in
theorem lbX3_isValid_e {K : Nat} (X : vzX D (MT cA) A wsX3_isValid cX3_isValid 2 (some .boolean) RX3 p s m args meth c) : ∀ (x1 : Int32) (u : MU) (H : Heap) (locs : List Loc) (ls : Array Slot) (r : Int32) (u2 : MU), fX3_isValid n K x1 u = some (r, u2) → va_P D vwCl (MW a n cA u) H → va_D A (MW a n cA u) → va_S A s.heap H locs → lv_has ls 2 [(0, .ref (a 0)), (1, .int x1)] → W p l e (headSpec wsX3_isValid rmX3_isValid).room s m args below meth c H locs 0 0 (MQ below (vzQ D (MT cA) (MW a n cA) A r u2) args s 0 0 A) (F0 m 0 ls []) := by
  obtain ⟨hx, hb, hr, hml, hown, hts, hlk, hN, hK, hA⟩ := id X
  intro x1 u H locs ls r u2 hf hP hD hS hl
  unfold fX3_isValid at hf
  refine lv_aload_n hx hb dX3_isValid_0 rfl (lv_at hl 0 rfl) ?_
  refine va_get (D := D) (ci := 3) (v := .ref (a 1)) (C := RX3) (T := TX3) (N := 16) hx hb hts in_X3_isValid_X3 hown hK hP 0 rfl rfl 2 (by decide) (hts _ (List.mem_of_getElem? (i := 1) rfl)) (fun _ h9 => h9) rfl dX3_isValid_1 ?_
  refine lv_iload_n hx hb dX3_isValid_4 rfl (lv_at hl 1 rfl) ?_
  obtain ⟨g1, hf⟩ := vgs hf
  refine va_iald hx hb hK hP 1 0 rfl rfl g1 dX3_isValid_5 ?_
  refine lv_iconst (v := zI (-1)) hx hb dX3_isValid_6 (by decide) ?_
  refine lv_icmp_eq (tgt := 28) hx hb dX3_isValid_7 (by decide) (fun c2 => ?_) (fun c2 => ?_)
  · have hf := ift c2 hf
    refine lv_iconst (v := zI 0) hx hb dX3_isValid_28 (by decide) ?_
    cases hf
    exact vz_zret X rfl hP hD hS dX3_isValid_29
  · have hf := iff_ c2 hf
    refine lv_aload_n hx hb dX3_isValid_10 rfl (lv_at hl 0 rfl) ?_
    refine lv_aload_n hx hb dX3_isValid_11 rfl (lv_at hl 0 rfl) ?_
    refine va_get (D := D) (ci := 3) (v := .ref (a 1)) (C := RX3) (T := TX3) (N := 16) hx hb hts in_X3_isValid_X3 hown hK hP 0 rfl rfl 2 (by decide) (hts _ (List.mem_of_getElem? (i := 1) rfl)) (fun _ h9 => h9) rfl dX3_isValid_12 ?_
    refine lv_iload_n hx hb dX3_isValid_15 rfl (lv_at hl 1 rfl) ?_
    obtain ⟨g3, hf⟩ := vgs hf
    refine va_iald hx hb hK hP 1 0 rfl rfl g3 dX3_isValid_16 ?_
    obtain ⟨z4, hz5, hf⟩ := bd hf
    refine vz_call (rest := []) X (kX3_newest hz5) (cwV 1 hts gX3_isValid_X3_newest rfl rfl rfl (by decide +kernel) ⟨Nat.le_of_ble_eq_true rfl, Nat.le_of_ble_eq_true rfl⟩) 0 3 rfl rfl rfl hl.1 rfl (Nat.le_of_ble_eq_true rfl) dX3_isValid_17 ⟨Nat.zero_le _, Nat.zero_le _⟩ hP hD hS (fun H locs hP hD hS => ?_)
    refine lv_iload_n hx hb dX3_isValid_20 rfl (lv_at hl 1 rfl) ?_
    refine lv_icmp_ne (tgt := 28) hx hb dX3_isValid_21 (by decide) (fun c6 => ?_) (fun c6 => ?_)
    · have hf := iff_ c6 hf
      refine lv_iconst (v := zI 0) hx hb dX3_isValid_28 (by decide) ?_
      cases hf
      exact vz_zret X rfl hP hD hS dX3_isValid_29
    · have hf := ift c6 hf
      refine lv_iconst (v := zI 1) hx hb dX3_isValid_24 (by decide) ?_
      refine lv_goto (tgt := 29) hx hb dX3_isValid_25 (by decide) ?_
      cases hf
      exact vz_zret X rfl hP hD hS dX3_isValid_29
end
theorem kX3_isValid {l : Launch} {D : va_G} {a n : Nat → Nat} {cA : Nat → ClassId} {K : Nat} {x1 : Int32} {u : MU} {r : Int32} {u2 : MU} (h : fX3_isValid n K x1 u = some (r, u2)) : vzC l D (MT cA) (MW a n cA) yX3_isValid wsX3_isValid rmX3_isValid [.ref (a 0), .int x1] u r u2 := vzC.of (by decide) rfl (Nat.le_of_ble_eq_true rfl) (fun p e s m below meth c A ls X hP hD hl => lbX3_isValid_e X x1 u s.heap [] ls r u2 h hP hD va_S.rf hl)
abbrev rmX3_validIn : Room := { frames := 2, cells := 0, slots := 0, locals := 44 }
theorem in_X3_validIn_X3 : ∀ w ∈ u_ws RX3 TX3 16, w ∈ wsX3_validIn := fun _ h => List.mem_cons_of_mem _ (List.mem_append_right _ h)
def fX3_validIn_4 (n : Nat → Nat) (K : Nat) : Nat → Int32 → Int32 → Int32 → MU → Option (Int32 × MU)
  | 0, _, _, _, _ => none
  | N + 1, x1, x2, x3, u => if (zI 4) ≤ x3 then (some (x2, u)) else ((fX3_isValid n K (((zI 4) * x1) + x3) u).bind fun z2 => (if z2.1 = 0 then (fX3_validIn_4 n K N x1 (x2 + (zI 0)) (x3 + (zI 1)) z2.2) else (fX3_validIn_4 n K N x1 (x2 + (zI 1)) (x3 + (zI 1)) z2.2)))
def fX3_validIn (n : Nat → Nat) (K : Nat) (x1 : Int32) (u : MU) : Option (Int32 × MU) := fX3_validIn_4 n K K x1 (zI 0) (zI 0) u
section
variable {p : Program} {l : Launch} {e : Env} {s : State} {m : MethodId} {args : Array Value} {below : List Frame} {meth : Method} {c : Code} {D : va_G} {a n : Nat → Nat} {cA : Nat → ClassId} {A : Nat → Prop}
set_option maxHeartbeats 4000000 in
set_option maxRecDepth 100000 in
theorem lbX3_validIn_4 {K : Nat} (X : vzX D (MT cA) A wsX3_validIn cX3_validIn 4 (some .int) RX3 p s m args meth c) : ∀ (N : Nat) (x1 x2 x3 : Int32) (u : MU) (H : Heap) (locs : List Loc) (ls : Array Slot) (r : Int32) (u2 : MU), fX3_validIn_4 n K N x1 x2 x3 u = some (r, u2) → va_P D vwCl (MW a n cA u) H → va_D A (MW a n cA u) → va_S A s.heap H locs → lv_has ls 4 [(0, .ref (a 0)), (1, .int x1), (2, .int x2), (3, .int x3)] → W p l e (headSpec wsX3_validIn rmX3_validIn).room s m args below meth c H locs 0 0 (MQ below (vzQ D (MT cA) (MW a n cA) A r u2) args s 0 0 A) (F0 m 4 ls []) := by
  obtain ⟨hx, hb, hr, hml, hown, hts, hlk, hN, hK, hA⟩ := id X
  intro N
  induction N with
  | zero =>
    intro x1 x2 x3 u H locs ls r u2 hf
    cases hf
  | succ N ih =>
    intro x1 x2 x3 u H locs ls r u2 hf hP hD hS hl
    rw [fX3_validIn_4] at hf
    refine lv_iload_n hx hb dX3_validIn_4 rfl (lv_at hl 3 rfl) ?_
    refine lv_iconst (v := zI 4) hx hb dX3_validIn_5 (by decide) ?_
    refine lv_icmp_ge (tgt := 35) hx hb dX3_validIn_6 (by decide) (fun c1 => ?_) (fun c1 => ?_)
    · have hf := ift c1 hf
      refine lv_iload_n hx hb dX3_validIn_35 rfl (lv_at hl 2 rfl) ?_
      cases hf
      exact vz_iret X hP hD hS dX3_validIn_36
    · have hf := iff_ c1 hf
      refine lv_iload_n hx hb dX3_validIn_9 rfl (lv_at hl 2 rfl) ?_
      refine lv_aload_n hx hb dX3_validIn_10 rfl (lv_at hl 0 rfl) ?_
      refine lv_iconst (v := zI 4) hx hb dX3_validIn_11 (by decide) ?_
      refine lv_iload_n hx hb dX3_validIn_12 rfl (lv_at hl 1 rfl) ?_
      refine lv_imul hx hb dX3_validIn_13 ?_
      refine lv_iload_n hx hb dX3_validIn_14 rfl (lv_at hl 3 rfl) ?_
      refine lv_iadd hx hb dX3_validIn_15 ?_
      obtain ⟨z2, hz3, hf⟩ := bd hf
      refine vz_call (rest := [.int x2]) X (kX3_isValid hz3) (cwV 1 hts gX3_validIn_X3_isValid rfl rfl rfl (by decide +kernel) ⟨Nat.le_of_ble_eq_true rfl, Nat.le_of_ble_eq_true rfl⟩) 0 3 rfl rfl rfl hl.1 rfl (Nat.le_of_ble_eq_true rfl) dX3_validIn_16 ⟨Nat.zero_le _, Nat.zero_le _⟩ hP hD hS (fun H locs hP hD hS => ?_)
      refine lv_if_eq (tgt := 26) hx hb dX3_validIn_19 (by decide) (fun c4 => ?_) (fun c4 => ?_)
      · have hf := ift c4 hf
        refine lv_iconst (v := zI 0) hx hb dX3_validIn_26 (by decide) ?_
        refine lv_iadd hx hb dX3_validIn_27 ?_
        refine lv_istore_n (lv' := [(2, .int (x2 + (zI 0))), (0, .ref (a 0)), (1, .int x1), (3, .int x3)]) hx hb dX3_validIn_28 rfl hl (by decide) rfl (fun ls hl => ?_)
        refine lv_iinc (v := x3 + (zI 1)) (lv' := [(3, .int (x3 + (zI 1))), (2, .int (x2 + (zI 0))), (0, .ref (a 0)), (1, .int x1)]) hx hb dX3_validIn_29 hl (k := 3) rfl rfl (by decide) rfl (fun ls hl => ?_)
        refine lv_goto (tgt := 4) hx hb dX3_validIn_32 (by decide) ?_
        exact ih x1 (x2 + (zI 0)) (x3 + (zI 1)) z2.2 _ _ _ _ _ hf hP hD hS (lv_sub hl [2, 3, 1, 0] rfl)
      · have hf := iff_ c4 hf
        refine lv_iconst (v := zI 1) hx hb dX3_validIn_22 (by decide) ?_
        refine lv_goto (tgt := 27) hx hb dX3_validIn_23 (by decide) ?_
        refine lv_iadd hx hb dX3_validIn_27 ?_
        refine lv_istore_n (lv' := [(2, .int (x2 + (zI 1))), (0, .ref (a 0)), (1, .int x1), (3, .int x3)]) hx hb dX3_validIn_28 rfl hl (by decide) rfl (fun ls hl => ?_)
        refine lv_iinc (v := x3 + (zI 1)) (lv' := [(3, .int (x3 + (zI 1))), (2, .int (x2 + (zI 1))), (0, .ref (a 0)), (1, .int x1)]) hx hb dX3_validIn_29 hl (k := 3) rfl rfl (by decide) rfl (fun ls hl => ?_)
        refine lv_goto (tgt := 4) hx hb dX3_validIn_32 (by decide) ?_
        exact ih x1 (x2 + (zI 1)) (x3 + (zI 1)) z2.2 _ _ _ _ _ hf hP hD hS (lv_sub hl [2, 3, 1, 0] rfl)
set_option maxHeartbeats 4000000 in
set_option maxRecDepth 100000 in
theorem lbX3_validIn_e {K : Nat} (X : vzX D (MT cA) A wsX3_validIn cX3_validIn 4 (some .int) RX3 p s m args meth c) : ∀ (x1 : Int32) (u : MU) (H : Heap) (locs : List Loc) (ls : Array Slot) (r : Int32) (u2 : MU), fX3_validIn n K x1 u = some (r, u2) → va_P D vwCl (MW a n cA u) H → va_D A (MW a n cA u) → va_S A s.heap H locs → lv_has ls 4 [(0, .ref (a 0)), (1, .int x1)] → W p l e (headSpec wsX3_validIn rmX3_validIn).room s m args below meth c H locs 0 0 (MQ below (vzQ D (MT cA) (MW a n cA) A r u2) args s 0 0 A) (F0 m 0 ls []) := by
  obtain ⟨hx, hb, hr, hml, hown, hts, hlk, hN, hK, hA⟩ := id X
  intro x1 u H locs ls r u2 hf hP hD hS hl
  unfold fX3_validIn at hf
  refine lv_iconst (v := zI 0) hx hb dX3_validIn_0 (by decide) ?_
  refine lv_istore_n (lv' := [(2, .int (zI 0)), (0, .ref (a 0)), (1, .int x1)]) hx hb dX3_validIn_1 rfl hl (by decide) rfl (fun ls hl => ?_)
  refine lv_iconst (v := zI 0) hx hb dX3_validIn_2 (by decide) ?_
  refine lv_istore_n (lv' := [(3, .int (zI 0)), (2, .int (zI 0)), (0, .ref (a 0)), (1, .int x1)]) hx hb dX3_validIn_3 rfl hl (by decide) rfl (fun ls hl => ?_)
  exact lbX3_validIn_4 X K x1 (zI 0) (zI 0) u _ _ _ _ _ hf hP hD hS (lv_sub hl [2, 3, 1, 0] rfl)
end
theorem kX3_validIn {l : Launch} {D : va_G} {a n : Nat → Nat} {cA : Nat → ClassId} {K : Nat} {x1 : Int32} {u : MU} {r : Int32} {u2 : MU} (h : fX3_validIn n K x1 u = some (r, u2)) : vzC l D (MT cA) (MW a n cA) yX3_validIn wsX3_validIn rmX3_validIn [.ref (a 0), .int x1] u r u2 := vzC.of (by decide) rfl (Nat.le_of_ble_eq_true rfl) (fun p e s m below meth c A ls X hP hD hl => lbX3_validIn_e X x1 u s.heap [] ls r u2 h hP hD va_S.rf hl)
