abbrev rmX0_isFull : Room := { frames := 0, cells := 0, slots := 0, locals := 0 }
theorem in_X0_isFull_X0 : ∀ w ∈ u_ws RX0 TX0 4, w ∈ wsX0_isFull := fun _ h => List.mem_cons_of_mem _ (List.mem_append_right _ h)
def fX0_isFull (n : Nat → Nat) (K : Nat) (u : XU) : Option (Int32 × XU) := if (xu_cnt u) = (zI 3) then (some (zI 1, u)) else (some (zI 0, u))
section
variable {p : Program} {l : Launch} {e : Env} {s : State} {m : MethodId} {args : Array Value} {below : List Frame} {meth : Method} {c : Code} {D : va_G} {a n : Nat → Nat} {cA : Nat → ClassId} {A : Nat → Prop}
set_option maxHeartbeats 4000000 in
set_option maxRecDepth 100000 in
theorem lbX0_isFull_e {K : Nat} (X : vzX D (XT cA) A wsX0_isFull cX0_isFull 1 (some .boolean) RX0 p s m args meth c) : ∀ (u : XU) (H : Heap) (locs : List Loc) (ls : Array Slot) (r : Int32) (u2 : XU), fX0_isFull n K u = some (r, u2) → va_P D vwCl (XW a n cA u) H → va_D A (XW a n cA u) → va_S A s.heap H locs → lv_has ls 1 [(0, .ref (a 2))] → W p l e (headSpec wsX0_isFull rmX0_isFull).room s m args below meth c H locs 0 0 (MQ below (vzQ D (XT cA) (XW a n cA) A r u2) args s 0 0 A) (F0 m 0 ls []) := by
  obtain ⟨hx, hb, hr, hml, hown, hts, hlk, hN, hK, hA⟩ := id X
  intro u H locs ls r u2 hf hP hD hS hl
  unfold fX0_isFull at hf
  refine lv_aload_n hx hb dX0_isFull_0 rfl (lv_at hl 0 rfl) ?_
  refine va_get (D := D) (ci := 0) (v := .int (xu_cnt u)) (C := RX0) (T := TX0) (N := 4) hx hb hts in_X0_isFull_X0 hown hK hP 2 rfl rfl 3 (by decide) (hts _ (List.mem_of_getElem? (i := 1) rfl)) (fun _ h9 => h9) rfl dX0_isFull_1 ?_
  refine lv_iconst (v := zI 3) hx hb dX0_isFull_4 (by decide) ?_
  refine lv_icmp_ne (tgt := 12) hx hb dX0_isFull_5 (by decide) (fun c1 => ?_) (fun c1 => ?_)
  · have hf := iff_ c1 hf
    refine lv_iconst (v := zI 0) hx hb dX0_isFull_12 (by decide) ?_
    cases hf
    exact vz_zret X rfl hP hD hS dX0_isFull_13
  · have hf := ift c1 hf
    refine lv_iconst (v := zI 1) hx hb dX0_isFull_8 (by decide) ?_
    refine lv_goto (tgt := 13) hx hb dX0_isFull_9 (by decide) ?_
    cases hf
    exact vz_zret X rfl hP hD hS dX0_isFull_13
end
theorem kX0_isFull {l : Launch} {D : va_G} {a n : Nat → Nat} {cA : Nat → ClassId} {K : Nat} {u : XU} {r : Int32} {u2 : XU} (h : fX0_isFull n K u = some (r, u2)) : vzC l D (XT cA) (XW a n cA) yX0_isFull wsX0_isFull rmX0_isFull [.ref (a 2)] u r u2 := vzC.of (by decide) rfl (Nat.le_of_ble_eq_true rfl) (fun p e s m below meth c A ls X hP hD hl => lbX0_isFull_e X u s.heap [] ls r u2 h hP hD va_S.rf hl)
abbrev rmX0_find : Room := { frames := 0, cells := 0, slots := 0, locals := 0 }
theorem in_X0_find_X0 : ∀ w ∈ u_ws RX0 TX0 4, w ∈ wsX0_find := fun _ h => List.mem_cons_of_mem _ (List.mem_append_right _ h)
def fX0_find_2 (n : Nat → Nat) (K : Nat) : Nat → Int32 → Int32 → XU → Option (Int32 × XU)
  | 0, _, _, _ => none
  | N + 1, x1, x2, u => if (xu_cnt u) ≤ x2 then (some (zI (-1), u)) else (vg x2 (n 10) (if ((xu_bse u) x2.toNatClampNeg) = x1 then (some (x2, u)) else (fX0_find_2 n K N x1 (x2 + (zI 1)) u)))
def fX0_find (n : Nat → Nat) (K : Nat) (x1 : Int32) (u : XU) : Option (Int32 × XU) := fX0_find_2 n K K x1 (zI 0) u
section
variable {p : Program} {l : Launch} {e : Env} {s : State} {m : MethodId} {args : Array Value} {below : List Frame} {meth : Method} {c : Code} {D : va_G} {a n : Nat → Nat} {cA : Nat → ClassId} {A : Nat → Prop}
set_option maxHeartbeats 4000000 in
set_option maxRecDepth 100000 in
theorem lbX0_find_2 {K : Nat} (X : vzX D (XT cA) A wsX0_find cX0_find 3 (some .int) RX0 p s m args meth c) : ∀ (N : Nat) (x1 x2 : Int32) (u : XU) (H : Heap) (locs : List Loc) (ls : Array Slot) (r : Int32) (u2 : XU), fX0_find_2 n K N x1 x2 u = some (r, u2) → va_P D vwCl (XW a n cA u) H → va_D A (XW a n cA u) → va_S A s.heap H locs → lv_has ls 3 [(0, .ref (a 2)), (1, .int x1), (2, .int x2)] → W p l e (headSpec wsX0_find rmX0_find).room s m args below meth c H locs 0 0 (MQ below (vzQ D (XT cA) (XW a n cA) A r u2) args s 0 0 A) (F0 m 2 ls []) := by
  obtain ⟨hx, hb, hr, hml, hown, hts, hlk, hN, hK, hA⟩ := id X
  intro N
  induction N with
  | zero =>
    intro x1 x2 u H locs ls r u2 hf
    cases hf
  | succ N ih =>
    intro x1 x2 u H locs ls r u2 hf hP hD hS hl
    rw [fX0_find_2] at hf
    refine lv_iload_n hx hb dX0_find_2 rfl (lv_at hl 2 rfl) ?_
    refine lv_aload_n hx hb dX0_find_3 rfl (lv_at hl 0 rfl) ?_
    refine va_get (D := D) (ci := 0) (v := .int (xu_cnt u)) (C := RX0) (T := TX0) (N := 4) hx hb hts in_X0_find_X0 hown hK hP 2 rfl rfl 3 (by decide) (hts _ (List.mem_of_getElem? (i := 1) rfl)) (fun _ h9 => h9) rfl dX0_find_4 ?_
    refine lv_icmp_ge (tgt := 28) hx hb dX0_find_7 (by decide) (fun c1 => ?_) (fun c1 => ?_)
    · have hf := ift c1 hf
      refine lv_iconst (v := zI (-1)) hx hb dX0_find_28 (by decide) ?_
      cases hf
      exact vz_iret X hP hD hS dX0_find_29
    · have hf := iff_ c1 hf
      refine lv_aload_n hx hb dX0_find_10 rfl (lv_at hl 0 rfl) ?_
      refine va_get (D := D) (ci := 0) (v := .ref (a 10)) (C := RX0) (T := TX0) (N := 4) hx hb hts in_X0_find_X0 hown hK hP 2 rfl rfl 0 (by decide) (hts _ (List.mem_of_getElem? (i := 2) rfl)) (fun _ h9 => h9) rfl dX0_find_11 ?_
      refine lv_iload_n hx hb dX0_find_14 rfl (lv_at hl 2 rfl) ?_
      obtain ⟨g2, hf⟩ := vgs hf
      refine va_iald hx hb hK hP 10 7 rfl rfl g2 dX0_find_15 ?_
      refine lv_iload_n hx hb dX0_find_16 rfl (lv_at hl 1 rfl) ?_
      refine lv_icmp_ne (tgt := 22) hx hb dX0_find_17 (by decide) (fun c3 => ?_) (fun c3 => ?_)
      · have hf := iff_ c3 hf
        refine lv_iinc (v := x2 + (zI 1)) (lv' := [(2, .int (x2 + (zI 1))), (0, .ref (a 2)), (1, .int x1)]) hx hb dX0_find_22 hl (k := 2) rfl rfl (by decide) rfl (fun ls hl => ?_)
        refine lv_goto (tgt := 2) hx hb dX0_find_25 (by decide) ?_
        exact ih x1 (x2 + (zI 1)) u _ _ _ _ _ hf hP hD hS (lv_sub hl [1, 2, 0] rfl)
      · have hf := ift c3 hf
        refine lv_iload_n hx hb dX0_find_20 rfl (lv_at hl 2 rfl) ?_
        cases hf
        exact vz_iret X hP hD hS dX0_find_21
set_option maxHeartbeats 4000000 in
set_option maxRecDepth 100000 in
theorem lbX0_find_e {K : Nat} (X : vzX D (XT cA) A wsX0_find cX0_find 3 (some .int) RX0 p s m args meth c) : ∀ (x1 : Int32) (u : XU) (H : Heap) (locs : List Loc) (ls : Array Slot) (r : Int32) (u2 : XU), fX0_find n K x1 u = some (r, u2) → va_P D vwCl (XW a n cA u) H → va_D A (XW a n cA u) → va_S A s.heap H locs → lv_has ls 3 [(0, .ref (a 2)), (1, .int x1)] → W p l e (headSpec wsX0_find rmX0_find).room s m args below meth c H locs 0 0 (MQ below (vzQ D (XT cA) (XW a n cA) A r u2) args s 0 0 A) (F0 m 0 ls []) := by
  obtain ⟨hx, hb, hr, hml, hown, hts, hlk, hN, hK, hA⟩ := id X
  intro x1 u H locs ls r u2 hf hP hD hS hl
  unfold fX0_find at hf
  refine lv_iconst (v := zI 0) hx hb dX0_find_0 (by decide) ?_
  refine lv_istore_n (lv' := [(2, .int (zI 0)), (0, .ref (a 2)), (1, .int x1)]) hx hb dX0_find_1 rfl hl (by decide) rfl (fun ls hl => ?_)
  exact lbX0_find_2 X K x1 (zI 0) u _ _ _ _ _ hf hP hD hS (lv_sub hl [1, 2, 0] rfl)
end
theorem kX0_find {l : Launch} {D : va_G} {a n : Nat → Nat} {cA : Nat → ClassId} {K : Nat} {x1 : Int32} {u : XU} {r : Int32} {u2 : XU} (h : fX0_find n K x1 u = some (r, u2)) : vzC l D (XT cA) (XW a n cA) yX0_find wsX0_find rmX0_find [.ref (a 2), .int x1] u r u2 := vzC.of (by decide) rfl (Nat.le_of_ble_eq_true rfl) (fun p e s m below meth c A ls X hP hD hl => lbX0_find_e X x1 u s.heap [] ls r u2 h hP hD va_S.rf hl)
abbrev rmX0_change : Room := { frames := 0, cells := 0, slots := 0, locals := 0 }
theorem in_X0_change_X0 : ∀ w ∈ u_ws RX0 TX0 4, w ∈ wsX0_change := fun _ h => List.mem_cons_of_mem _ (List.mem_append_right _ h)
def fX0_change (n : Nat → Nat) (K : Nat) (x1 x2 x3 : Int32) (u : XU) : Option XU := vg x1 (n 11) (vg x1 (n 12) (some (xu_s_bki (xu_s_bva u (upd (xu_bva u) (x1).toNatClampNeg x2)) (upd (xu_bki u) (x1).toNatClampNeg x3))))
section
variable {p : Program} {l : Launch} {e : Env} {s : State} {m : MethodId} {args : Array Value} {below : List Frame} {meth : Method} {c : Code} {D : va_G} {a n : Nat → Nat} {cA : Nat → ClassId} {A : Nat → Prop}
set_option maxHeartbeats 4000000 in
set_option maxRecDepth 100000 in
theorem lbX0_change_e {K : Nat} (X : vzX D (XT cA) A wsX0_change cX0_change 4 none RX0 p s m args meth c) : ∀ (x1 x2 x3 : Int32) (u : XU) (H : Heap) (locs : List Loc) (ls : Array Slot) (u2 : XU), fX0_change n K x1 x2 x3 u = some u2 → va_P D vwCl (XW a n cA u) H → va_D A (XW a n cA u) → va_S A s.heap H locs → lv_has ls 4 [(0, .ref (a 2)), (1, .int x1), (2, .int x2), (3, .int x3)] → W p l e (headSpec wsX0_change rmX0_change).room s m args below meth c H locs 0 0 (MQ below (vzQv D (XT cA) (XW a n cA) A u2) args s 0 0 A) (F0 m 0 ls []) := by
  obtain ⟨hx, hb, hr, hml, hown, hts, hlk, hN, hK, hA⟩ := id X
  intro x1 x2 x3 u H locs ls u2 hf hP hD hS hl
  unfold fX0_change at hf
  refine lv_aload_n hx hb dX0_change_0 rfl (lv_at hl 0 rfl) ?_
  refine va_get (D := D) (ci := 0) (v := .ref (a 11)) (C := RX0) (T := TX0) (N := 4) hx hb hts in_X0_change_X0 hown hK hP 2 rfl rfl 1 (by decide) (hts _ (List.mem_of_getElem? (i := 1) rfl)) (fun _ h9 => h9) rfl dX0_change_1 ?_
  refine lv_iload_n hx hb dX0_change_4 rfl (lv_at hl 1 rfl) ?_
  refine lv_iload_n hx hb dX0_change_5 rfl (lv_at hl 2 rfl) ?_
  obtain ⟨g1, hf⟩ := vgs hf
  refine va_iast hx hb hK hP hD hS 11 8 rfl rfl g1 dX0_change_6 (fun H locs hP hD hS => ?_)
  have hP : va_P D vwCl (XW a n cA (xu_s_bva u (upd (xu_bva u) (x1).toNatClampNeg x2))) H := hP
  have hD : va_D A (XW a n cA (xu_s_bva u (upd (xu_bva u) (x1).toNatClampNeg x2))) := hD
  refine lv_aload_n hx hb dX0_change_7 rfl (lv_at hl 0 rfl) ?_
  refine va_get (D := D) (ci := 0) (v := .ref (a 12)) (C := RX0) (T := TX0) (N := 4) hx hb hts in_X0_change_X0 hown hK hP 2 rfl rfl 2 (by decide) (hts _ (List.mem_of_getElem? (i := 2) rfl)) (fun _ h9 => h9) rfl dX0_change_8 ?_
  refine lv_iload_n hx hb dX0_change_11 rfl (lv_at hl 1 rfl) ?_
  refine lv_iload_n hx hb dX0_change_12 rfl (lv_at hl 3 rfl) ?_
  obtain ⟨g2, hf⟩ := vgs hf
  refine va_iast hx hb hK hP hD hS 12 9 rfl rfl g2 dX0_change_13 (fun H locs hP hD hS => ?_)
  have hP : va_P D vwCl (XW a n cA (xu_s_bki (xu_s_bva u (upd (xu_bva u) (x1).toNatClampNeg x2)) (upd (xu_bki u) (x1).toNatClampNeg x3))) H := hP
  have hD : va_D A (XW a n cA (xu_s_bki (xu_s_bva u (upd (xu_bva u) (x1).toNatClampNeg x2)) (upd (xu_bki u) (x1).toNatClampNeg x3))) := hD
  cases hf
  exact vz_vret X hP hD hS dX0_change_14
end
theorem kX0_change {l : Launch} {D : va_G} {a n : Nat → Nat} {cA : Nat → ClassId} {K : Nat} {x1 x2 x3 : Int32} {u : XU} {u2 : XU} (h : fX0_change n K x1 x2 x3 u = some u2) : vzV l D (XT cA) (XW a n cA) yX0_change wsX0_change rmX0_change [.ref (a 2), .int x1, .int x2, .int x3] u u2 := vzV.of (by decide) rfl (Nat.le_of_ble_eq_true rfl) (fun p e s m below meth c A ls X hP hD hl => lbX0_change_e X x1 x2 x3 u s.heap [] ls u2 h hP hD va_S.rf hl)
abbrev rmX0_add : Room := { frames := 1, cells := 0, slots := 0, locals := 23 }
theorem in_X0_add_X0 : ∀ w ∈ u_ws RX0 TX0 4, w ∈ wsX0_add := fun _ h => List.mem_cons_of_mem _ (List.mem_append_right _ h)
def fX0_add (n : Nat → Nat) (K : Nat) (x1 x2 x3 : Int32) (u : XU) : Option XU := (fX0_isFull n K u).bind fun z1 => (if z1.1 = 0 then (vg (xu_cnt z1.2) (n 10) ((fX0_change n K (xu_cnt z1.2) x2 x3 (xu_s_bse z1.2 (upd (xu_bse z1.2) ((xu_cnt z1.2)).toNatClampNeg x1))).bind fun z5 => (some (xu_s_cnt z5 ((xu_cnt z5) + (zI 1)))))) else (some z1.2))
section
variable {p : Program} {l : Launch} {e : Env} {s : State} {m : MethodId} {args : Array Value} {below : List Frame} {meth : Method} {c : Code} {D : va_G} {a n : Nat → Nat} {cA : Nat → ClassId} {A : Nat → Prop}
set_option maxHeartbeats 4000000 in
set_option maxRecDepth 100000 in
theorem lbX0_add_e {K : Nat} (X : vzX D (XT cA) A wsX0_add cX0_add 4 none RX0 p s m args meth c) : ∀ (x1 x2 x3 : Int32) (u : XU) (H : Heap) (locs : List Loc) (ls : Array Slot) (u2 : XU), fX0_add n K x1 x2 x3 u = some u2 → va_P D vwCl (XW a n cA u) H → va_D A (XW a n cA u) → va_S A s.heap H locs → lv_has ls 4 [(0, .ref (a 2)), (1, .int x1), (2, .int x2), (3, .int x3)] → W p l e (headSpec wsX0_add rmX0_add).room s m args below meth c H locs 0 0 (MQ below (vzQv D (XT cA) (XW a n cA) A u2) args s 0 0 A) (F0 m 0 ls []) := by
  obtain ⟨hx, hb, hr, hml, hown, hts, hlk, hN, hK, hA⟩ := id X
  intro x1 x2 x3 u H locs ls u2 hf hP hD hS hl
  unfold fX0_add at hf
  refine lv_aload_n hx hb dX0_add_0 rfl (lv_at hl 0 rfl) ?_
  obtain ⟨z1, hz2, hf⟩ := bd hf
  refine vz_call (rest := []) X (kX0_isFull hz2) (cwV 0 hts gX0_add_X0_isFull rfl rfl rfl (by decide +kernel) ⟨Nat.le_of_ble_eq_true rfl, Nat.le_of_ble_eq_true rfl⟩) 2 0 rfl rfl rfl hl.1 rfl (Nat.le_of_ble_eq_true rfl) dX0_add_1 ⟨Nat.zero_le _, Nat.zero_le _⟩ hP hD hS (fun H locs hP hD hS => ?_)
  refine lv_if_eq (tgt := 8) hx hb dX0_add_4 (by decide) (fun c3 => ?_) (fun c3 => ?_)
  · have hf := ift c3 hf
    refine lv_aload_n hx hb dX0_add_8 rfl (lv_at hl 0 rfl) ?_
    refine va_get (D := D) (ci := 0) (v := .ref (a 10)) (C := RX0) (T := TX0) (N := 4) hx hb hts in_X0_add_X0 hown hK hP 2 rfl rfl 0 (by decide) (hts _ (List.mem_of_getElem? (i := 1) rfl)) (fun _ h9 => h9) rfl dX0_add_9 ?_
    refine lv_aload_n hx hb dX0_add_12 rfl (lv_at hl 0 rfl) ?_
    refine va_get (D := D) (ci := 0) (v := .int (xu_cnt z1.2)) (C := RX0) (T := TX0) (N := 4) hx hb hts in_X0_add_X0 hown hK hP 2 rfl rfl 3 (by decide) (hts _ (List.mem_of_getElem? (i := 2) rfl)) (fun _ h9 => h9) rfl dX0_add_13 ?_
    refine lv_iload_n hx hb dX0_add_16 rfl (lv_at hl 1 rfl) ?_
    obtain ⟨g4, hf⟩ := vgs hf
    refine va_iast hx hb hK hP hD hS 10 7 rfl rfl g4 dX0_add_17 (fun H locs hP hD hS => ?_)
    have hP : va_P D vwCl (XW a n cA (xu_s_bse z1.2 (upd (xu_bse z1.2) ((xu_cnt z1.2)).toNatClampNeg x1))) H := hP
    have hD : va_D A (XW a n cA (xu_s_bse z1.2 (upd (xu_bse z1.2) ((xu_cnt z1.2)).toNatClampNeg x1))) := hD
    refine lv_aload_n hx hb dX0_add_18 rfl (lv_at hl 0 rfl) ?_
    refine lv_aload_n hx hb dX0_add_19 rfl (lv_at hl 0 rfl) ?_
    refine va_get (D := D) (ci := 0) (v := .int (xu_cnt z1.2)) (C := RX0) (T := TX0) (N := 4) hx hb hts in_X0_add_X0 hown hK hP 2 rfl rfl 3 (by decide) (hts _ (List.mem_of_getElem? (i := 2) rfl)) (fun _ h9 => h9) rfl dX0_add_20 ?_
    refine lv_iload_n hx hb dX0_add_23 rfl (lv_at hl 2 rfl) ?_
    refine lv_iload_n hx hb dX0_add_24 rfl (lv_at hl 3 rfl) ?_
    obtain ⟨z5, hz6, hf⟩ := bd hf
    refine vz_callv (rest := []) X (kX0_change hz6) (cwV 3 hts gX0_add_X0_change rfl rfl rfl (by decide +kernel) ⟨Nat.le_of_ble_eq_true rfl, Nat.le_of_ble_eq_true rfl⟩) 2 0 rfl rfl rfl hl.1 rfl (Nat.le_of_ble_eq_true rfl) dX0_add_25 ⟨Nat.zero_le _, Nat.zero_le _⟩ hP hD hS (fun H locs hP hD hS => ?_)
    refine lv_aload_n hx hb dX0_add_28 rfl (lv_at hl 0 rfl) ?_
    refine lv_dup hx hb dX0_add_29 rfl ?_
    refine va_get (D := D) (ci := 0) (v := .int (xu_cnt z5)) (C := RX0) (T := TX0) (N := 4) hx hb hts in_X0_add_X0 hown hK hP 2 rfl rfl 3 (by decide) (hts _ (List.mem_of_getElem? (i := 2) rfl)) (fun _ h9 => h9) rfl dX0_add_30 ?_
    refine lv_iconst (v := zI 1) hx hb dX0_add_33 (by decide) ?_
    refine lv_iadd hx hb dX0_add_34 ?_
    refine va_put (D := D) (ci := 0) (v := .int ((xu_cnt z5) + (zI 1))) (ty := .int) (C := RX0) (T := TX0) (N := 4) hx hb hts in_X0_add_X0 tyX0 tyX0_ok nmX0 hown hK hP hD hS 2 rfl rfl 3 (by decide) (hts _ (List.mem_of_getElem? (i := 2) rfl)) (fun _ h9 => h9) rfl (by decide +kernel) rfl rfl (Nat.le_of_ble_eq_true rfl) dX0_add_35 (fun H locs hP hD hS => ?_)
    have hP : va_P D vwCl (XW a n cA (xu_s_cnt z5 ((xu_cnt z5) + (zI 1)))) H := hP
    have hD : va_D A (XW a n cA (xu_s_cnt z5 ((xu_cnt z5) + (zI 1)))) := hD
    cases hf
    exact vz_vret X hP hD hS dX0_add_38
  · have hf := iff_ c3 hf
    cases hf
    exact vz_vret X hP hD hS dX0_add_7
end
theorem kX0_add {l : Launch} {D : va_G} {a n : Nat → Nat} {cA : Nat → ClassId} {K : Nat} {x1 x2 x3 : Int32} {u : XU} {u2 : XU} (h : fX0_add n K x1 x2 x3 u = some u2) : vzV l D (XT cA) (XW a n cA) yX0_add wsX0_add rmX0_add [.ref (a 2), .int x1, .int x2, .int x3] u u2 := vzV.of (by decide) rfl (Nat.le_of_ble_eq_true rfl) (fun p e s m below meth c A ls X hP hD hl => lbX0_add_e X x1 x2 x3 u s.heap [] ls u2 h hP hD va_S.rf hl)
abbrev rmX0_dropFirst : Room := { frames := 0, cells := 0, slots := 0, locals := 0 }
theorem in_X0_dropFirst_X0 : ∀ w ∈ u_ws RX0 TX0 4, w ∈ wsX0_dropFirst := fun _ h => List.mem_cons_of_mem _ (List.mem_append_right _ h)
def fX0_dropFirst_2 (n : Nat → Nat) (K : Nat) : Nat → Int32 → XU → Option XU
  | 0, _, _ => none
  | N + 1, x1, u => if (xu_cnt u) ≤ x1 then (some (xu_s_cnt u ((xu_cnt u) - (zI 1)))) else (vg x1 (n 10) (vg (x1 - (zI 1)) (n 10) (vg x1 (n 11) (vg (x1 - (zI 1)) (n 11) (vg x1 (n 12) (vg (x1 - (zI 1)) (n 12) (fX0_dropFirst_2 n K N (x1 + (zI 1)) (xu_s_bki (xu_s_bva (xu_s_bse u (upd (xu_bse u) ((x1 - (zI 1))).toNatClampNeg ((xu_bse u) x1.toNatClampNeg))) (upd (xu_bva u) ((x1 - (zI 1))).toNatClampNeg ((xu_bva u) x1.toNatClampNeg))) (upd (xu_bki u) ((x1 - (zI 1))).toNatClampNeg ((xu_bki u) x1.toNatClampNeg))))))))))
def fX0_dropFirst (n : Nat → Nat) (K : Nat) (u : XU) : Option XU := fX0_dropFirst_2 n K K (zI 1) u
section
variable {p : Program} {l : Launch} {e : Env} {s : State} {m : MethodId} {args : Array Value} {below : List Frame} {meth : Method} {c : Code} {D : va_G} {a n : Nat → Nat} {cA : Nat → ClassId} {A : Nat → Prop}
set_option maxHeartbeats 4000000 in
set_option maxRecDepth 100000 in
theorem lbX0_dropFirst_2 {K : Nat} (X : vzX D (XT cA) A wsX0_dropFirst cX0_dropFirst 2 none RX0 p s m args meth c) : ∀ (N : Nat) (x1 : Int32) (u : XU) (H : Heap) (locs : List Loc) (ls : Array Slot) (u2 : XU), fX0_dropFirst_2 n K N x1 u = some u2 → va_P D vwCl (XW a n cA u) H → va_D A (XW a n cA u) → va_S A s.heap H locs → lv_has ls 2 [(0, .ref (a 2)), (1, .int x1)] → W p l e (headSpec wsX0_dropFirst rmX0_dropFirst).room s m args below meth c H locs 0 0 (MQ below (vzQv D (XT cA) (XW a n cA) A u2) args s 0 0 A) (F0 m 2 ls []) := by
  obtain ⟨hx, hb, hr, hml, hown, hts, hlk, hN, hK, hA⟩ := id X
  intro N
  induction N with
  | zero =>
    intro x1 u H locs ls u2 hf
    cases hf
  | succ N ih =>
    intro x1 u H locs ls u2 hf hP hD hS hl
    rw [fX0_dropFirst_2] at hf
    refine lv_iload_n hx hb dX0_dropFirst_2 rfl (lv_at hl 1 rfl) ?_
    refine lv_aload_n hx hb dX0_dropFirst_3 rfl (lv_at hl 0 rfl) ?_
    refine va_get (D := D) (ci := 0) (v := .int (xu_cnt u)) (C := RX0) (T := TX0) (N := 4) hx hb hts in_X0_dropFirst_X0 hown hK hP 2 rfl rfl 3 (by decide) (hts _ (List.mem_of_getElem? (i := 1) rfl)) (fun _ h9 => h9) rfl dX0_dropFirst_4 ?_
    refine lv_icmp_ge (tgt := 58) hx hb dX0_dropFirst_7 (by decide) (fun c1 => ?_) (fun c1 => ?_)
    · have hf := ift c1 hf
      refine lv_aload_n hx hb dX0_dropFirst_58 rfl (lv_at hl 0 rfl) ?_
      refine lv_dup hx hb dX0_dropFirst_59 rfl ?_
      refine va_get (D := D) (ci := 0) (v := .int (xu_cnt u)) (C := RX0) (T := TX0) (N := 4) hx hb hts in_X0_dropFirst_X0 hown hK hP 2 rfl rfl 3 (by decide) (hts _ (List.mem_of_getElem? (i := 1) rfl)) (fun _ h9 => h9) rfl dX0_dropFirst_60 ?_
      refine lv_iconst (v := zI 1) hx hb dX0_dropFirst_63 (by decide) ?_
      refine lv_isub hx hb dX0_dropFirst_64 ?_
      refine va_put (D := D) (ci := 0) (v := .int ((xu_cnt u) - (zI 1))) (ty := .int) (C := RX0) (T := TX0) (N := 4) hx hb hts in_X0_dropFirst_X0 tyX0 tyX0_ok nmX0 hown hK hP hD hS 2 rfl rfl 3 (by decide) (hts _ (List.mem_of_getElem? (i := 1) rfl)) (fun _ h9 => h9) rfl (by decide +kernel) rfl rfl (Nat.le_of_ble_eq_true rfl) dX0_dropFirst_65 (fun H locs hP hD hS => ?_)
      have hP : va_P D vwCl (XW a n cA (xu_s_cnt u ((xu_cnt u) - (zI 1)))) H := hP
      have hD : va_D A (XW a n cA (xu_s_cnt u ((xu_cnt u) - (zI 1)))) := hD
      cases hf
      exact vz_vret X hP hD hS dX0_dropFirst_68
    · have hf := iff_ c1 hf
      refine lv_aload_n hx hb dX0_dropFirst_10 rfl (lv_at hl 0 rfl) ?_
      refine va_get (D := D) (ci := 0) (v := .ref (a 10)) (C := RX0) (T := TX0) (N := 4) hx hb hts in_X0_dropFirst_X0 hown hK hP 2 rfl rfl 0 (by decide) (hts _ (List.mem_of_getElem? (i := 2) rfl)) (fun _ h9 => h9) rfl dX0_dropFirst_11 ?_
      refine lv_iload_n hx hb dX0_dropFirst_14 rfl (lv_at hl 1 rfl) ?_
      refine lv_iconst (v := zI 1) hx hb dX0_dropFirst_15 (by decide) ?_
      refine lv_isub hx hb dX0_dropFirst_16 ?_
      refine lv_aload_n hx hb dX0_dropFirst_17 rfl (lv_at hl 0 rfl) ?_
      refine va_get (D := D) (ci := 0) (v := .ref (a 10)) (C := RX0) (T := TX0) (N := 4) hx hb hts in_X0_dropFirst_X0 hown hK hP 2 rfl rfl 0 (by decide) (hts _ (List.mem_of_getElem? (i := 2) rfl)) (fun _ h9 => h9) rfl dX0_dropFirst_18 ?_
      refine lv_iload_n hx hb dX0_dropFirst_21 rfl (lv_at hl 1 rfl) ?_
      obtain ⟨g2, hf⟩ := vgs hf
      refine va_iald hx hb hK hP 10 7 rfl rfl g2 dX0_dropFirst_22 ?_
      obtain ⟨g3, hf⟩ := vgs hf
      refine va_iast hx hb hK hP hD hS 10 7 rfl rfl g3 dX0_dropFirst_23 (fun H locs hP hD hS => ?_)
      have hP : va_P D vwCl (XW a n cA (xu_s_bse u (upd (xu_bse u) ((x1 - (zI 1))).toNatClampNeg ((xu_bse u) x1.toNatClampNeg)))) H := hP
      have hD : va_D A (XW a n cA (xu_s_bse u (upd (xu_bse u) ((x1 - (zI 1))).toNatClampNeg ((xu_bse u) x1.toNatClampNeg)))) := hD
      refine lv_aload_n hx hb dX0_dropFirst_24 rfl (lv_at hl 0 rfl) ?_
      refine va_get (D := D) (ci := 0) (v := .ref (a 11)) (C := RX0) (T := TX0) (N := 4) hx hb hts in_X0_dropFirst_X0 hown hK hP 2 rfl rfl 1 (by decide) (hts _ (List.mem_of_getElem? (i := 3) rfl)) (fun _ h9 => h9) rfl dX0_dropFirst_25 ?_
      refine lv_iload_n hx hb dX0_dropFirst_28 rfl (lv_at hl 1 rfl) ?_
      refine lv_iconst (v := zI 1) hx hb dX0_dropFirst_29 (by decide) ?_
      refine lv_isub hx hb dX0_dropFirst_30 ?_
      refine lv_aload_n hx hb dX0_dropFirst_31 rfl (lv_at hl 0 rfl) ?_
      refine va_get (D := D) (ci := 0) (v := .ref (a 11)) (C := RX0) (T := TX0) (N := 4) hx hb hts in_X0_dropFirst_X0 hown hK hP 2 rfl rfl 1 (by decide) (hts _ (List.mem_of_getElem? (i := 3) rfl)) (fun _ h9 => h9) rfl dX0_dropFirst_32 ?_
      refine lv_iload_n hx hb dX0_dropFirst_35 rfl (lv_at hl 1 rfl) ?_
      obtain ⟨g4, hf⟩ := vgs hf
      refine va_iald hx hb hK hP 11 8 rfl rfl g4 dX0_dropFirst_36 ?_
      obtain ⟨g5, hf⟩ := vgs hf
      refine va_iast hx hb hK hP hD hS 11 8 rfl rfl g5 dX0_dropFirst_37 (fun H locs hP hD hS => ?_)
      have hP : va_P D vwCl (XW a n cA (xu_s_bva (xu_s_bse u (upd (xu_bse u) ((x1 - (zI 1))).toNatClampNeg ((xu_bse u) x1.toNatClampNeg))) (upd (xu_bva u) ((x1 - (zI 1))).toNatClampNeg ((xu_bva u) x1.toNatClampNeg)))) H := hP
      have hD : va_D A (XW a n cA (xu_s_bva (xu_s_bse u (upd (xu_bse u) ((x1 - (zI 1))).toNatClampNeg ((xu_bse u) x1.toNatClampNeg))) (upd (xu_bva u) ((x1 - (zI 1))).toNatClampNeg ((xu_bva u) x1.toNatClampNeg)))) := hD
      refine lv_aload_n hx hb dX0_dropFirst_38 rfl (lv_at hl 0 rfl) ?_
      refine va_get (D := D) (ci := 0) (v := .ref (a 12)) (C := RX0) (T := TX0) (N := 4) hx hb hts in_X0_dropFirst_X0 hown hK hP 2 rfl rfl 2 (by decide) (hts _ (List.mem_of_getElem? (i := 4) rfl)) (fun _ h9 => h9) rfl dX0_dropFirst_39 ?_
      refine lv_iload_n hx hb dX0_dropFirst_42 rfl (lv_at hl 1 rfl) ?_
      refine lv_iconst (v := zI 1) hx hb dX0_dropFirst_43 (by decide) ?_
      refine lv_isub hx hb dX0_dropFirst_44 ?_
      refine lv_aload_n hx hb dX0_dropFirst_45 rfl (lv_at hl 0 rfl) ?_
      refine va_get (D := D) (ci := 0) (v := .ref (a 12)) (C := RX0) (T := TX0) (N := 4) hx hb hts in_X0_dropFirst_X0 hown hK hP 2 rfl rfl 2 (by decide) (hts _ (List.mem_of_getElem? (i := 4) rfl)) (fun _ h9 => h9) rfl dX0_dropFirst_46 ?_
      refine lv_iload_n hx hb dX0_dropFirst_49 rfl (lv_at hl 1 rfl) ?_
      obtain ⟨g6, hf⟩ := vgs hf
      refine va_iald hx hb hK hP 12 9 rfl rfl g6 dX0_dropFirst_50 ?_
      obtain ⟨g7, hf⟩ := vgs hf
      refine va_iast hx hb hK hP hD hS 12 9 rfl rfl g7 dX0_dropFirst_51 (fun H locs hP hD hS => ?_)
      have hP : va_P D vwCl (XW a n cA (xu_s_bki (xu_s_bva (xu_s_bse u (upd (xu_bse u) ((x1 - (zI 1))).toNatClampNeg ((xu_bse u) x1.toNatClampNeg))) (upd (xu_bva u) ((x1 - (zI 1))).toNatClampNeg ((xu_bva u) x1.toNatClampNeg))) (upd (xu_bki u) ((x1 - (zI 1))).toNatClampNeg ((xu_bki u) x1.toNatClampNeg)))) H := hP
      have hD : va_D A (XW a n cA (xu_s_bki (xu_s_bva (xu_s_bse u (upd (xu_bse u) ((x1 - (zI 1))).toNatClampNeg ((xu_bse u) x1.toNatClampNeg))) (upd (xu_bva u) ((x1 - (zI 1))).toNatClampNeg ((xu_bva u) x1.toNatClampNeg))) (upd (xu_bki u) ((x1 - (zI 1))).toNatClampNeg ((xu_bki u) x1.toNatClampNeg)))) := hD
      refine lv_iinc (v := x1 + (zI 1)) (lv' := [(1, .int (x1 + (zI 1))), (0, .ref (a 2))]) hx hb dX0_dropFirst_52 hl (k := 1) rfl rfl (by decide) rfl (fun ls hl => ?_)
      refine lv_goto (tgt := 2) hx hb dX0_dropFirst_55 (by decide) ?_
      exact ih (x1 + (zI 1)) (xu_s_bki (xu_s_bva (xu_s_bse u (upd (xu_bse u) ((x1 - (zI 1))).toNatClampNeg ((xu_bse u) x1.toNatClampNeg))) (upd (xu_bva u) ((x1 - (zI 1))).toNatClampNeg ((xu_bva u) x1.toNatClampNeg))) (upd (xu_bki u) ((x1 - (zI 1))).toNatClampNeg ((xu_bki u) x1.toNatClampNeg))) _ _ _ _ hf hP hD hS (lv_sub hl [1, 0] rfl)
set_option maxHeartbeats 4000000 in
set_option maxRecDepth 100000 in
theorem lbX0_dropFirst_e {K : Nat} (X : vzX D (XT cA) A wsX0_dropFirst cX0_dropFirst 2 none RX0 p s m args meth c) : ∀ (u : XU) (H : Heap) (locs : List Loc) (ls : Array Slot) (u2 : XU), fX0_dropFirst n K u = some u2 → va_P D vwCl (XW a n cA u) H → va_D A (XW a n cA u) → va_S A s.heap H locs → lv_has ls 2 [(0, .ref (a 2))] → W p l e (headSpec wsX0_dropFirst rmX0_dropFirst).room s m args below meth c H locs 0 0 (MQ below (vzQv D (XT cA) (XW a n cA) A u2) args s 0 0 A) (F0 m 0 ls []) := by
  obtain ⟨hx, hb, hr, hml, hown, hts, hlk, hN, hK, hA⟩ := id X
  intro u H locs ls u2 hf hP hD hS hl
  unfold fX0_dropFirst at hf
  refine lv_iconst (v := zI 1) hx hb dX0_dropFirst_0 (by decide) ?_
  refine lv_istore_n (lv' := [(1, .int (zI 1)), (0, .ref (a 2))]) hx hb dX0_dropFirst_1 rfl hl (by decide) rfl (fun ls hl => ?_)
  exact lbX0_dropFirst_2 X K (zI 1) u _ _ _ _ hf hP hD hS (lv_sub hl [1, 0] rfl)
end
theorem kX0_dropFirst {l : Launch} {D : va_G} {a n : Nat → Nat} {cA : Nat → ClassId} {K : Nat} {u : XU} {u2 : XU} (h : fX0_dropFirst n K u = some u2) : vzV l D (XT cA) (XW a n cA) yX0_dropFirst wsX0_dropFirst rmX0_dropFirst [.ref (a 2)] u u2 := vzV.of (by decide) rfl (Nat.le_of_ble_eq_true rfl) (fun p e s m below meth c A ls X hP hD hl => lbX0_dropFirst_e X u s.heap [] ls u2 h hP hD va_S.rf hl)
