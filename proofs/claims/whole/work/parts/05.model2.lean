abbrev rmX3_freeBlocks : Room := { frames := 1, cells := 0, slots := 0, locals := 23 }
theorem in_X3_freeBlocks_X3 : ∀ w ∈ u_ws RX3 TX3 16, w ∈ wsX3_freeBlocks := fun _ h => List.mem_cons_of_mem _ (List.mem_append_right _ h)
def fX3_freeBlocks_4 (n : Nat → Nat) (K : Nat) : Nat → Int32 → Int32 → MU → Option (Int32 × MU)
  | 0, _, _, _ => none
  | N + 1, x1, x2, u => if (mu_blk u) ≤ x2 then (some (x1, u)) else ((fX3_programmed n K x2 u).bind fun z2 => (if z2.1 = 0 then (fX3_freeBlocks_4 n K N (x1 + (zI 1)) (x2 + (zI 1)) z2.2) else (fX3_freeBlocks_4 n K N (x1 + (zI 0)) (x2 + (zI 1)) z2.2)))
def fX3_freeBlocks (n : Nat → Nat) (K : Nat) (u : MU) : Option (Int32 × MU) := fX3_freeBlocks_4 n K K (zI 0) (zI 0) u
section
variable {p : Program} {l : Launch} {e : Env} {s : State} {m : MethodId} {args : Array Value} {below : List Frame} {meth : Method} {c : Code} {D : va_G} {a n : Nat → Nat} {cA : Nat → ClassId} {A : Nat → Prop}
set_option maxHeartbeats 4000000 in
set_option maxRecDepth 100000 in
theorem lbX3_freeBlocks_4 {K : Nat} (X : vzX D (MT cA) A wsX3_freeBlocks cX3_freeBlocks 3 (some .int) RX3 p s m args meth c) : ∀ (N : Nat) (x1 x2 : Int32) (u : MU) (H : Heap) (locs : List Loc) (ls : Array Slot) (r : Int32) (u2 : MU), fX3_freeBlocks_4 n K N x1 x2 u = some (r, u2) → va_P D vwCl (MW a n cA u) H → va_D A (MW a n cA u) → va_S A s.heap H locs → lv_has ls 3 [(0, .ref (a 0)), (1, .int x1), (2, .int x2)] → W p l e (headSpec wsX3_freeBlocks rmX3_freeBlocks).room s m args below meth c H locs 0 0 (MQ below (vzQ D (MT cA) (MW a n cA) A r u2) args s 0 0 A) (F0 m 4 ls []) := by
  obtain ⟨hx, hb, hr, hml, hown, hts, hlk, hN, hK, hA⟩ := id X
  intro N
  induction N with
  | zero =>
    intro x1 x2 u H locs ls r u2 hf
    cases hf
  | succ N ih =>
    intro x1 x2 u H locs ls r u2 hf hP hD hS hl
    rw [fX3_freeBlocks_4] at hf
    refine lv_iload_n hx hb dX3_freeBlocks_4 rfl (lv_at hl 2 rfl) ?_
    refine lv_aload_n hx hb dX3_freeBlocks_5 rfl (lv_at hl 0 rfl) ?_
    refine va_get (D := D) (ci := 3) (v := .int (mu_blk u)) (C := RX3) (T := TX3) (N := 16) hx hb hts in_X3_freeBlocks_X3 hown hK hP 0 rfl rfl 0 (by decide) (hts _ (List.mem_of_getElem? (i := 1) rfl)) (fun _ h9 => h9) rfl dX3_freeBlocks_6 ?_
    refine lv_icmp_ge (tgt := 34) hx hb dX3_freeBlocks_9 (by decide) (fun c1 => ?_) (fun c1 => ?_)
    · have hf := ift c1 hf
      refine lv_iload_n hx hb dX3_freeBlocks_34 rfl (lv_at hl 1 rfl) ?_
      cases hf
      exact vz_iret X hP hD hS dX3_freeBlocks_35
    · have hf := iff_ c1 hf
      refine lv_iload_n hx hb dX3_freeBlocks_12 rfl (lv_at hl 1 rfl) ?_
      refine lv_aload_n hx hb dX3_freeBlocks_13 rfl (lv_at hl 0 rfl) ?_
      refine lv_iload_n hx hb dX3_freeBlocks_14 rfl (lv_at hl 2 rfl) ?_
      obtain ⟨z2, hz3, hf⟩ := bd hf
      refine vz_call (rest := [.int x1]) X (kX3_programmed hz3) (cwV 1 hts gX3_freeBlocks_X3_programmed rfl rfl rfl (by decide +kernel) ⟨Nat.le_of_ble_eq_true rfl, Nat.le_of_ble_eq_true rfl⟩) 0 3 rfl rfl rfl hl.1 rfl (Nat.le_of_ble_eq_true rfl) dX3_freeBlocks_15 ⟨Nat.zero_le _, Nat.zero_le _⟩ hP hD hS (fun H locs hP hD hS => ?_)
      refine lv_if_ne (tgt := 25) hx hb dX3_freeBlocks_18 (by decide) (fun c4 => ?_) (fun c4 => ?_)
      · have hf := iff_ c4 hf
        refine lv_iconst (v := zI 0) hx hb dX3_freeBlocks_25 (by decide) ?_
        refine lv_iadd hx hb dX3_freeBlocks_26 ?_
        refine lv_istore_n (lv' := [(1, .int (x1 + (zI 0))), (0, .ref (a 0)), (2, .int x2)]) hx hb dX3_freeBlocks_27 rfl hl (by decide) rfl (fun ls hl => ?_)
        refine lv_iinc (v := x2 + (zI 1)) (lv' := [(2, .int (x2 + (zI 1))), (1, .int (x1 + (zI 0))), (0, .ref (a 0))]) hx hb dX3_freeBlocks_28 hl (k := 2) rfl rfl (by decide) rfl (fun ls hl => ?_)
        refine lv_goto (tgt := 4) hx hb dX3_freeBlocks_31 (by decide) ?_
        exact ih (x1 + (zI 0)) (x2 + (zI 1)) z2.2 _ _ _ _ _ hf hP hD hS (lv_sub hl [2, 1, 0] rfl)
      · have hf := ift c4 hf
        refine lv_iconst (v := zI 1) hx hb dX3_freeBlocks_21 (by decide) ?_
        refine lv_goto (tgt := 26) hx hb dX3_freeBlocks_22 (by decide) ?_
        refine lv_iadd hx hb dX3_freeBlocks_26 ?_
        refine lv_istore_n (lv' := [(1, .int (x1 + (zI 1))), (0, .ref (a 0)), (2, .int x2)]) hx hb dX3_freeBlocks_27 rfl hl (by decide) rfl (fun ls hl => ?_)
        refine lv_iinc (v := x2 + (zI 1)) (lv' := [(2, .int (x2 + (zI 1))), (1, .int (x1 + (zI 1))), (0, .ref (a 0))]) hx hb dX3_freeBlocks_28 hl (k := 2) rfl rfl (by decide) rfl (fun ls hl => ?_)
        refine lv_goto (tgt := 4) hx hb dX3_freeBlocks_31 (by decide) ?_
        exact ih (x1 + (zI 1)) (x2 + (zI 1)) z2.2 _ _ _ _ _ hf hP hD hS (lv_sub hl [2, 1, 0] rfl)
set_option maxHeartbeats 4000000 in
set_option maxRecDepth 100000 in
theorem lbX3_freeBlocks_e {K : Nat} (X : vzX D (MT cA) A wsX3_freeBlocks cX3_freeBlocks 3 (some .int) RX3 p s m args meth c) : ∀ (u : MU) (H : Heap) (locs : List Loc) (ls : Array Slot) (r : Int32) (u2 : MU), fX3_freeBlocks n K u = some (r, u2) → va_P D vwCl (MW a n cA u) H → va_D A (MW a n cA u) → va_S A s.heap H locs → lv_has ls 3 [(0, .ref (a 0))] → W p l e (headSpec wsX3_freeBlocks rmX3_freeBlocks).room s m args below meth c H locs 0 0 (MQ below (vzQ D (MT cA) (MW a n cA) A r u2) args s 0 0 A) (F0 m 0 ls []) := by
  obtain ⟨hx, hb, hr, hml, hown, hts, hlk, hN, hK, hA⟩ := id X
  intro u H locs ls r u2 hf hP hD hS hl
  unfold fX3_freeBlocks at hf
  refine lv_iconst (v := zI 0) hx hb dX3_freeBlocks_0 (by decide) ?_
  refine lv_istore_n (lv' := [(1, .int (zI 0)), (0, .ref (a 0))]) hx hb dX3_freeBlocks_1 rfl hl (by decide) rfl (fun ls hl => ?_)
  refine lv_iconst (v := zI 0) hx hb dX3_freeBlocks_2 (by decide) ?_
  refine lv_istore_n (lv' := [(2, .int (zI 0)), (1, .int (zI 0)), (0, .ref (a 0))]) hx hb dX3_freeBlocks_3 rfl hl (by decide) rfl (fun ls hl => ?_)
  exact lbX3_freeBlocks_4 X K (zI 0) (zI 0) u _ _ _ _ _ hf hP hD hS (lv_sub hl [2, 1, 0] rfl)
end
theorem kX3_freeBlocks {l : Launch} {D : va_G} {a n : Nat → Nat} {cA : Nat → ClassId} {K : Nat} {u : MU} {r : Int32} {u2 : MU} (h : fX3_freeBlocks n K u = some (r, u2)) : vzC l D (MT cA) (MW a n cA) yX3_freeBlocks wsX3_freeBlocks rmX3_freeBlocks [.ref (a 0)] u r u2 := vzC.of (by decide) rfl (Nat.le_of_ble_eq_true rfl) (fun p e s m below meth c A ls X hP hD hl => lbX3_freeBlocks_e X u s.heap [] ls r u2 h hP hD va_S.rf hl)
abbrev rmX3_pick : Room := { frames := 3, cells := 0, slots := 0, locals := 67 }
theorem in_X3_pick_X3 : ∀ w ∈ u_ws RX3 TX3 16, w ∈ wsX3_pick := fun _ h => List.mem_cons_of_mem _ (List.mem_append_right _ h)
def fX3_pick_8 (n : Nat → Nat) (K : Nat) : Nat → Int32 → Int32 → Int32 → Int32 → Int32 → MU → Option (Int32 × MU)
  | 0, _, _, _, _, _, _ => none
  | N + 1, x1, x2, x3, x4, x5, u => if (mu_blk u) ≤ x5 then (some (x3, u)) else (vg x5 (n 5) (if x2 = 0 then ((fX3_programmed n K x5 u).bind fun z4 => (if z4.1 = x1 then (if x3 = (zI (-1)) then (fX3_pick_8 n K N x1 x2 x5 (((mu_era u) x5.toNatClampNeg) + (zI 0)) (x5 + (zI 1)) z4.2) else (if x4 ≤ (((mu_era u) x5.toNatClampNeg) + (zI 0)) then (fX3_pick_8 n K N x1 x2 x3 x4 (x5 + (zI 1)) z4.2) else (fX3_pick_8 n K N x1 x2 x5 (((mu_era u) x5.toNatClampNeg) + (zI 0)) (x5 + (zI 1)) z4.2))) else (fX3_pick_8 n K N x1 x2 x3 x4 (x5 + (zI 1)) z4.2))) else ((fX3_validIn n K x5 u).bind fun z9 => ((fX3_programmed n K x5 z9.2).bind fun z11 => (if z11.1 = x1 then (if x3 = (zI (-1)) then (fX3_pick_8 n K N x1 x2 x5 (((mu_era u) x5.toNatClampNeg) + ((zI 100000) * z9.1)) (x5 + (zI 1)) z11.2) else (if x4 ≤ (((mu_era u) x5.toNatClampNeg) + ((zI 100000) * z9.1)) then (fX3_pick_8 n K N x1 x2 x3 x4 (x5 + (zI 1)) z11.2) else (fX3_pick_8 n K N x1 x2 x5 (((mu_era u) x5.toNatClampNeg) + ((zI 100000) * z9.1)) (x5 + (zI 1)) z11.2))) else (fX3_pick_8 n K N x1 x2 x3 x4 (x5 + (zI 1)) z11.2))))))
def fX3_pick (n : Nat → Nat) (K : Nat) (x1 x2 : Int32) (u : MU) : Option (Int32 × MU) := fX3_pick_8 n K K x1 x2 (zI (-1)) (zI 0) (zI 0) u
section
variable {p : Program} {l : Launch} {e : Env} {s : State} {m : MethodId} {args : Array Value} {below : List Frame} {meth : Method} {c : Code} {D : va_G} {a n : Nat → Nat} {cA : Nat → ClassId} {A : Nat → Prop}
set_option maxHeartbeats 4000000 in
set_option maxRecDepth 100000 in
theorem lbX3_pick_8 {K : Nat} (X : vzX D (MT cA) A wsX3_pick cX3_pick 7 (some .int) RX3 p s m args meth c) : ∀ (N : Nat) (x1 x2 x3 x4 x5 : Int32) (u : MU) (H : Heap) (locs : List Loc) (ls : Array Slot) (r : Int32) (u2 : MU), fX3_pick_8 n K N x1 x2 x3 x4 x5 u = some (r, u2) → va_P D vwCl (MW a n cA u) H → va_D A (MW a n cA u) → va_S A s.heap H locs → lv_has ls 7 [(0, .ref (a 0)), (1, .int x1), (2, .int x2), (3, .int x3), (4, .int x4), (5, .int x5)] → W p l e (headSpec wsX3_pick rmX3_pick).room s m args below meth c H locs 0 0 (MQ below (vzQ D (MT cA) (MW a n cA) A r u2) args s 0 0 A) (F0 m 8 ls []) := by
  obtain ⟨hx, hb, hr, hml, hown, hts, hlk, hN, hK, hA⟩ := id X
  intro N
  induction N with
  | zero =>
    intro x1 x2 x3 x4 x5 u H locs ls r u2 hf
    cases hf
  | succ N ih =>
    intro x1 x2 x3 x4 x5 u H locs ls r u2 hf hP hD hS hl
    rw [fX3_pick_8] at hf
    refine lv_iload hx hb dX3_pick_8 (lv_at hl 5 rfl) ?_
    refine lv_aload_n hx hb dX3_pick_10 rfl (lv_at hl 0 rfl) ?_
    refine va_get (D := D) (ci := 3) (v := .int (mu_blk u)) (C := RX3) (T := TX3) (N := 16) hx hb hts in_X3_pick_X3 hown hK hP 0 rfl rfl 0 (by decide) (hts _ (List.mem_of_getElem? (i := 1) rfl)) (fun _ h9 => h9) rfl dX3_pick_11 ?_
    refine lv_icmp_ge (tgt := 79) hx hb dX3_pick_14 (by decide) (fun c1 => ?_) (fun c1 => ?_)
    · have hf := ift c1 hf
      refine lv_iload_n hx hb dX3_pick_79 rfl (lv_at hl 3 rfl) ?_
      cases hf
      exact vz_iret X hP hD hS dX3_pick_80
    · have hf := iff_ c1 hf
      refine lv_aload_n hx hb dX3_pick_17 rfl (lv_at hl 0 rfl) ?_
      refine va_get (D := D) (ci := 3) (v := .ref (a 5)) (C := RX3) (T := TX3) (N := 16) hx hb hts in_X3_pick_X3 hown hK hP 0 rfl rfl 6 (by decide) (hts _ (List.mem_of_getElem? (i := 2) rfl)) (fun _ h9 => h9) rfl dX3_pick_18 ?_
      refine lv_iload hx hb dX3_pick_21 (lv_at hl 5 rfl) ?_
      obtain ⟨g2, hf⟩ := vgs hf
      refine va_iald hx hb hK hP 5 4 rfl rfl g2 dX3_pick_23 ?_
      refine lv_iload_n hx hb dX3_pick_24 rfl (lv_at hl 2 rfl) ?_
      refine lv_if_eq (tgt := 40) hx hb dX3_pick_25 (by decide) (fun c3 => ?_) (fun c3 => ?_)
      · have hf := ift c3 hf
        refine lv_iconst (v := zI 0) hx hb dX3_pick_40 (by decide) ?_
        refine lv_iadd hx hb dX3_pick_41 ?_
        refine lv_istore (lv' := [(6, .int (((mu_era u) x5.toNatClampNeg) + (zI 0))), (0, .ref (a 0)), (1, .int x1), (2, .int x2), (3, .int x3), (4, .int x4), (5, .int x5)]) hx hb dX3_pick_42 hl (by decide) rfl (fun ls hl => ?_)
        refine lv_aload_n hx hb dX3_pick_44 rfl (lv_at hl 1 rfl) ?_
        refine lv_iload hx hb dX3_pick_45 (lv_at hl 6 rfl) ?_
        obtain ⟨z4, hz5, hf⟩ := bd hf
        refine vz_call (rest := []) X (kX3_programmed hz5) (cwV 1 hts gX3_pick_X3_programmed rfl rfl rfl (by decide +kernel) ⟨Nat.le_of_ble_eq_true rfl, Nat.le_of_ble_eq_true rfl⟩) 0 3 rfl rfl rfl hl.1 rfl (Nat.le_of_ble_eq_true rfl) dX3_pick_47 ⟨Nat.zero_le _, Nat.zero_le _⟩ hP hD hS (fun H locs hP hD hS => ?_)
        refine lv_iload_n hx hb dX3_pick_50 rfl (lv_at hl 2 rfl) ?_
        refine lv_icmp_ne (tgt := 73) hx hb dX3_pick_51 (by decide) (fun c6 => ?_) (fun c6 => ?_)
        · have hf := iff_ c6 hf
          refine lv_iinc (v := x5 + (zI 1)) (lv' := [(5, .int (x5 + (zI 1))), (6, .int (((mu_era u) x5.toNatClampNeg) + (zI 0))), (0, .ref (a 0)), (1, .int x1), (2, .int x2), (3, .int x3), (4, .int x4)]) hx hb dX3_pick_73 hl (k := 6) rfl rfl (by decide) rfl (fun ls hl => ?_)
          refine lv_goto (tgt := 8) hx hb dX3_pick_76 (by decide) ?_
          exact ih x1 x2 x3 x4 (x5 + (zI 1)) z4.2 _ _ _ _ _ hf hP hD hS (lv_sub hl [2, 3, 4, 5, 6, 0] rfl)
        · have hf := ift c6 hf
          refine lv_iload_n hx hb dX3_pick_54 rfl (lv_at hl 4 rfl) ?_
          refine lv_iconst (v := zI (-1)) hx hb dX3_pick_55 (by decide) ?_
          refine lv_icmp_eq (tgt := 66) hx hb dX3_pick_56 (by decide) (fun c7 => ?_) (fun c7 => ?_)
          · have hf := ift c7 hf
            refine lv_iload hx hb dX3_pick_66 (lv_at hl 6 rfl) ?_
            refine lv_istore_n (lv' := [(3, .int x5), (6, .int (((mu_era u) x5.toNatClampNeg) + (zI 0))), (0, .ref (a 0)), (1, .int x1), (2, .int x2), (4, .int x4), (5, .int x5)]) hx hb dX3_pick_68 rfl hl (by decide) rfl (fun ls hl => ?_)
            refine lv_iload hx hb dX3_pick_69 (lv_at hl 1 rfl) ?_
            refine lv_istore (lv' := [(4, .int (((mu_era u) x5.toNatClampNeg) + (zI 0))), (3, .int x5), (6, .int (((mu_era u) x5.toNatClampNeg) + (zI 0))), (0, .ref (a 0)), (1, .int x1), (2, .int x2), (5, .int x5)]) hx hb dX3_pick_71 hl (by decide) rfl (fun ls hl => ?_)
            refine lv_iinc (v := x5 + (zI 1)) (lv' := [(5, .int (x5 + (zI 1))), (4, .int (((mu_era u) x5.toNatClampNeg) + (zI 0))), (3, .int x5), (6, .int (((mu_era u) x5.toNatClampNeg) + (zI 0))), (0, .ref (a 0)), (1, .int x1), (2, .int x2)]) hx hb dX3_pick_73 hl (k := 6) rfl rfl (by decide) rfl (fun ls hl => ?_)
            refine lv_goto (tgt := 8) hx hb dX3_pick_76 (by decide) ?_
            exact ih x1 x2 x5 (((mu_era u) x5.toNatClampNeg) + (zI 0)) (x5 + (zI 1)) z4.2 _ _ _ _ _ hf hP hD hS (lv_sub hl [4, 5, 6, 2, 1, 0] rfl)
          · have hf := iff_ c7 hf
            refine lv_iload hx hb dX3_pick_59 (lv_at hl 0 rfl) ?_
            refine lv_iload hx hb dX3_pick_61 (lv_at hl 5 rfl) ?_
            refine lv_icmp_ge (tgt := 73) hx hb dX3_pick_63 (by decide) (fun c8 => ?_) (fun c8 => ?_)
            · have hf := ift c8 hf
              refine lv_iinc (v := x5 + (zI 1)) (lv' := [(5, .int (x5 + (zI 1))), (6, .int (((mu_era u) x5.toNatClampNeg) + (zI 0))), (0, .ref (a 0)), (1, .int x1), (2, .int x2), (3, .int x3), (4, .int x4)]) hx hb dX3_pick_73 hl (k := 6) rfl rfl (by decide) rfl (fun ls hl => ?_)
              refine lv_goto (tgt := 8) hx hb dX3_pick_76 (by decide) ?_
              exact ih x1 x2 x3 x4 (x5 + (zI 1)) z4.2 _ _ _ _ _ hf hP hD hS (lv_sub hl [2, 3, 4, 5, 6, 0] rfl)
            · have hf := iff_ c8 hf
              refine lv_iload hx hb dX3_pick_66 (lv_at hl 6 rfl) ?_
              refine lv_istore_n (lv' := [(3, .int x5), (6, .int (((mu_era u) x5.toNatClampNeg) + (zI 0))), (0, .ref (a 0)), (1, .int x1), (2, .int x2), (4, .int x4), (5, .int x5)]) hx hb dX3_pick_68 rfl hl (by decide) rfl (fun ls hl => ?_)
              refine lv_iload hx hb dX3_pick_69 (lv_at hl 1 rfl) ?_
              refine lv_istore (lv' := [(4, .int (((mu_era u) x5.toNatClampNeg) + (zI 0))), (3, .int x5), (6, .int (((mu_era u) x5.toNatClampNeg) + (zI 0))), (0, .ref (a 0)), (1, .int x1), (2, .int x2), (5, .int x5)]) hx hb dX3_pick_71 hl (by decide) rfl (fun ls hl => ?_)
              refine lv_iinc (v := x5 + (zI 1)) (lv' := [(5, .int (x5 + (zI 1))), (4, .int (((mu_era u) x5.toNatClampNeg) + (zI 0))), (3, .int x5), (6, .int (((mu_era u) x5.toNatClampNeg) + (zI 0))), (0, .ref (a 0)), (1, .int x1), (2, .int x2)]) hx hb dX3_pick_73 hl (k := 6) rfl rfl (by decide) rfl (fun ls hl => ?_)
              refine lv_goto (tgt := 8) hx hb dX3_pick_76 (by decide) ?_
              exact ih x1 x2 x5 (((mu_era u) x5.toNatClampNeg) + (zI 0)) (x5 + (zI 1)) z4.2 _ _ _ _ _ hf hP hD hS (lv_sub hl [4, 5, 6, 2, 1, 0] rfl)
      · have hf := iff_ c3 hf
        refine lv_ldc (v := zI 100000) hx hb hown (hts _ (List.mem_of_getElem? (i := 3) rfl)) dX3_pick_28 ?_
        refine lv_aload_n hx hb dX3_pick_30 rfl (lv_at hl 0 rfl) ?_
        refine lv_iload hx hb dX3_pick_31 (lv_at hl 5 rfl) ?_
        obtain ⟨z9, hz10, hf⟩ := bd hf
        refine vz_call (rest := [.int (zI 100000), .int ((mu_era u) x5.toNatClampNeg)]) X (kX3_validIn hz10) (cwV 1 hts gX3_pick_X3_validIn rfl rfl rfl (by decide +kernel) ⟨Nat.le_of_ble_eq_true rfl, Nat.le_of_ble_eq_true rfl⟩) 0 3 rfl rfl rfl hl.1 rfl (Nat.le_of_ble_eq_true rfl) dX3_pick_33 ⟨Nat.zero_le _, Nat.zero_le _⟩ hP hD hS (fun H locs hP hD hS => ?_)
        refine lv_imul hx hb dX3_pick_36 ?_
        refine lv_goto (tgt := 41) hx hb dX3_pick_37 (by decide) ?_
        refine lv_iadd hx hb dX3_pick_41 ?_
        refine lv_istore (lv' := [(6, .int (((mu_era u) x5.toNatClampNeg) + ((zI 100000) * z9.1))), (0, .ref (a 0)), (1, .int x1), (2, .int x2), (3, .int x3), (4, .int x4), (5, .int x5)]) hx hb dX3_pick_42 hl (by decide) rfl (fun ls hl => ?_)
        refine lv_aload_n hx hb dX3_pick_44 rfl (lv_at hl 1 rfl) ?_
        refine lv_iload hx hb dX3_pick_45 (lv_at hl 6 rfl) ?_
        obtain ⟨z11, hz12, hf⟩ := bd hf
        refine vz_call (rest := []) X (kX3_programmed hz12) (cwV 1 hts gX3_pick_X3_programmed rfl rfl rfl (by decide +kernel) ⟨Nat.le_of_ble_eq_true rfl, Nat.le_of_ble_eq_true rfl⟩) 0 3 rfl rfl rfl hl.1 rfl (Nat.le_of_ble_eq_true rfl) dX3_pick_47 ⟨Nat.zero_le _, Nat.zero_le _⟩ hP hD hS (fun H locs hP hD hS => ?_)
        refine lv_iload_n hx hb dX3_pick_50 rfl (lv_at hl 2 rfl) ?_
        refine lv_icmp_ne (tgt := 73) hx hb dX3_pick_51 (by decide) (fun c13 => ?_) (fun c13 => ?_)
        · have hf := iff_ c13 hf
          refine lv_iinc (v := x5 + (zI 1)) (lv' := [(5, .int (x5 + (zI 1))), (6, .int (((mu_era u) x5.toNatClampNeg) + ((zI 100000) * z9.1))), (0, .ref (a 0)), (1, .int x1), (2, .int x2), (3, .int x3), (4, .int x4)]) hx hb dX3_pick_73 hl (k := 6) rfl rfl (by decide) rfl (fun ls hl => ?_)
          refine lv_goto (tgt := 8) hx hb dX3_pick_76 (by decide) ?_
          exact ih x1 x2 x3 x4 (x5 + (zI 1)) z11.2 _ _ _ _ _ hf hP hD hS (lv_sub hl [2, 3, 4, 5, 6, 0] rfl)
        · have hf := ift c13 hf
          refine lv_iload_n hx hb dX3_pick_54 rfl (lv_at hl 4 rfl) ?_
          refine lv_iconst (v := zI (-1)) hx hb dX3_pick_55 (by decide) ?_
          refine lv_icmp_eq (tgt := 66) hx hb dX3_pick_56 (by decide) (fun c14 => ?_) (fun c14 => ?_)
          · have hf := ift c14 hf
            refine lv_iload hx hb dX3_pick_66 (lv_at hl 6 rfl) ?_
            refine lv_istore_n (lv' := [(3, .int x5), (6, .int (((mu_era u) x5.toNatClampNeg) + ((zI 100000) * z9.1))), (0, .ref (a 0)), (1, .int x1), (2, .int x2), (4, .int x4), (5, .int x5)]) hx hb dX3_pick_68 rfl hl (by decide) rfl (fun ls hl => ?_)
            refine lv_iload hx hb dX3_pick_69 (lv_at hl 1 rfl) ?_
            refine lv_istore (lv' := [(4, .int (((mu_era u) x5.toNatClampNeg) + ((zI 100000) * z9.1))), (3, .int x5), (6, .int (((mu_era u) x5.toNatClampNeg) + ((zI 100000) * z9.1))), (0, .ref (a 0)), (1, .int x1), (2, .int x2), (5, .int x5)]) hx hb dX3_pick_71 hl (by decide) rfl (fun ls hl => ?_)
            refine lv_iinc (v := x5 + (zI 1)) (lv' := [(5, .int (x5 + (zI 1))), (4, .int (((mu_era u) x5.toNatClampNeg) + ((zI 100000) * z9.1))), (3, .int x5), (6, .int (((mu_era u) x5.toNatClampNeg) + ((zI 100000) * z9.1))), (0, .ref (a 0)), (1, .int x1), (2, .int x2)]) hx hb dX3_pick_73 hl (k := 6) rfl rfl (by decide) rfl (fun ls hl => ?_)
            refine lv_goto (tgt := 8) hx hb dX3_pick_76 (by decide) ?_
            exact ih x1 x2 x5 (((mu_era u) x5.toNatClampNeg) + ((zI 100000) * z9.1)) (x5 + (zI 1)) z11.2 _ _ _ _ _ hf hP hD hS (lv_sub hl [4, 5, 6, 2, 1, 0] rfl)
          · have hf := iff_ c14 hf
            refine lv_iload hx hb dX3_pick_59 (lv_at hl 0 rfl) ?_
            refine lv_iload hx hb dX3_pick_61 (lv_at hl 5 rfl) ?_
            refine lv_icmp_ge (tgt := 73) hx hb dX3_pick_63 (by decide) (fun c15 => ?_) (fun c15 => ?_)
            · have hf := ift c15 hf
              refine lv_iinc (v := x5 + (zI 1)) (lv' := [(5, .int (x5 + (zI 1))), (6, .int (((mu_era u) x5.toNatClampNeg) + ((zI 100000) * z9.1))), (0, .ref (a 0)), (1, .int x1), (2, .int x2), (3, .int x3), (4, .int x4)]) hx hb dX3_pick_73 hl (k := 6) rfl rfl (by decide) rfl (fun ls hl => ?_)
              refine lv_goto (tgt := 8) hx hb dX3_pick_76 (by decide) ?_
              exact ih x1 x2 x3 x4 (x5 + (zI 1)) z11.2 _ _ _ _ _ hf hP hD hS (lv_sub hl [2, 3, 4, 5, 6, 0] rfl)
            · have hf := iff_ c15 hf
              refine lv_iload hx hb dX3_pick_66 (lv_at hl 6 rfl) ?_
              refine lv_istore_n (lv' := [(3, .int x5), (6, .int (((mu_era u) x5.toNatClampNeg) + ((zI 100000) * z9.1))), (0, .ref (a 0)), (1, .int x1), (2, .int x2), (4, .int x4), (5, .int x5)]) hx hb dX3_pick_68 rfl hl (by decide) rfl (fun ls hl => ?_)
              refine lv_iload hx hb dX3_pick_69 (lv_at hl 1 rfl) ?_
              refine lv_istore (lv' := [(4, .int (((mu_era u) x5.toNatClampNeg) + ((zI 100000) * z9.1))), (3, .int x5), (6, .int (((mu_era u) x5.toNatClampNeg) + ((zI 100000) * z9.1))), (0, .ref (a 0)), (1, .int x1), (2, .int x2), (5, .int x5)]) hx hb dX3_pick_71 hl (by decide) rfl (fun ls hl => ?_)
              refine lv_iinc (v := x5 + (zI 1)) (lv' := [(5, .int (x5 + (zI 1))), (4, .int (((mu_era u) x5.toNatClampNeg) + ((zI 100000) * z9.1))), (3, .int x5), (6, .int (((mu_era u) x5.toNatClampNeg) + ((zI 100000) * z9.1))), (0, .ref (a 0)), (1, .int x1), (2, .int x2)]) hx hb dX3_pick_73 hl (k := 6) rfl rfl (by decide) rfl (fun ls hl => ?_)
              refine lv_goto (tgt := 8) hx hb dX3_pick_76 (by decide) ?_
              exact ih x1 x2 x5 (((mu_era u) x5.toNatClampNeg) + ((zI 100000) * z9.1)) (x5 + (zI 1)) z11.2 _ _ _ _ _ hf hP hD hS (lv_sub hl [4, 5, 6, 2, 1, 0] rfl)
set_option maxHeartbeats 4000000 in
set_option maxRecDepth 100000 in
theorem lbX3_pick_e {K : Nat} (X : vzX D (MT cA) A wsX3_pick cX3_pick 7 (some .int) RX3 p s m args meth c) : ∀ (x1 x2 : Int32) (u : MU) (H : Heap) (locs : List Loc) (ls : Array Slot) (r : Int32) (u2 : MU), fX3_pick n K x1 x2 u = some (r, u2) → va_P D vwCl (MW a n cA u) H → va_D A (MW a n cA u) → va_S A s.heap H locs → lv_has ls 7 [(0, .ref (a 0)), (1, .int x1), (2, .int x2)] → W p l e (headSpec wsX3_pick rmX3_pick).room s m args below meth c H locs 0 0 (MQ below (vzQ D (MT cA) (MW a n cA) A r u2) args s 0 0 A) (F0 m 0 ls []) := by
  obtain ⟨hx, hb, hr, hml, hown, hts, hlk, hN, hK, hA⟩ := id X
  intro x1 x2 u H locs ls r u2 hf hP hD hS hl
  unfold fX3_pick at hf
  refine lv_iconst (v := zI (-1)) hx hb dX3_pick_0 (by decide) ?_
  refine lv_istore_n (lv' := [(3, .int (zI (-1))), (0, .ref (a 0)), (1, .int x1), (2, .int x2)]) hx hb dX3_pick_1 rfl hl (by decide) rfl (fun ls hl => ?_)
  refine lv_iconst (v := zI 0) hx hb dX3_pick_2 (by decide) ?_
  refine lv_istore (lv' := [(4, .int (zI 0)), (3, .int (zI (-1))), (0, .ref (a 0)), (1, .int x1), (2, .int x2)]) hx hb dX3_pick_3 hl (by decide) rfl (fun ls hl => ?_)
  refine lv_iconst (v := zI 0) hx hb dX3_pick_5 (by decide) ?_
  refine lv_istore (lv' := [(5, .int (zI 0)), (4, .int (zI 0)), (3, .int (zI (-1))), (0, .ref (a 0)), (1, .int x1), (2, .int x2)]) hx hb dX3_pick_6 hl (by decide) rfl (fun ls hl => ?_)
  exact lbX3_pick_8 X K x1 x2 (zI (-1)) (zI 0) (zI 0) u _ _ _ _ _ hf hP hD hS (lv_sub hl [3, 4, 5, 2, 1, 0] rfl)
end
theorem kX3_pick {l : Launch} {D : va_G} {a n : Nat → Nat} {cA : Nat → ClassId} {K : Nat} {x1 x2 : Int32} {u : MU} {r : Int32} {u2 : MU} (h : fX3_pick n K x1 x2 u = some (r, u2)) : vzC l D (MT cA) (MW a n cA) yX3_pick wsX3_pick rmX3_pick [.ref (a 0), .int x1, .int x2] u r u2 := vzC.of (by decide) rfl (Nat.le_of_ble_eq_true rfl) (fun p e s m below meth c A ls X hP hD hl => lbX3_pick_e X x1 x2 u s.heap [] ls r u2 h hP hD va_S.rf hl)
abbrev rmX3_uneven : Room := { frames := 0, cells := 0, slots := 0, locals := 0 }
theorem in_X3_uneven_X3 : ∀ w ∈ u_ws RX3 TX3 16, w ∈ wsX3_uneven := fun _ h => List.mem_cons_of_mem _ (List.mem_append_right _ h)
def fX3_uneven_16 (n : Nat → Nat) (K : Nat) : Nat → Int32 → Int32 → Int32 → MU → Option (Int32 × MU)
  | 0, _, _, _, _ => none
  | N + 1, x1, x2, x3, u => if (mu_blk u) ≤ x3 then (if (x1 - x2) ≤ (mu_spr u) then (some (zI 0, u)) else (some (zI 1, u))) else (vg x3 (n 5) (if ((mu_era u) x3.toNatClampNeg) ≤ x1 then (vg x3 (n 5) (if x2 ≤ ((mu_era u) x3.toNatClampNeg) then (fX3_uneven_16 n K N x1 x2 (x3 + (zI 1)) u) else (vg x3 (n 5) (fX3_uneven_16 n K N x1 ((mu_era u) x3.toNatClampNeg) (x3 + (zI 1)) u)))) else (vg x3 (n 5) (vg x3 (n 5) (if x2 ≤ ((mu_era u) x3.toNatClampNeg) then (fX3_uneven_16 n K N ((mu_era u) x3.toNatClampNeg) x2 (x3 + (zI 1)) u) else (vg x3 (n 5) (fX3_uneven_16 n K N ((mu_era u) x3.toNatClampNeg) ((mu_era u) x3.toNatClampNeg) (x3 + (zI 1)) u)))))))
def fX3_uneven (n : Nat → Nat) (K : Nat) (u : MU) : Option (Int32 × MU) := vg (zI 0) (n 5) (vg (zI 0) (n 5) (fX3_uneven_16 n K K ((mu_era u) ((zI 0)).toNatClampNeg) ((mu_era u) ((zI 0)).toNatClampNeg) (zI 1) u))
section
variable {p : Program} {l : Launch} {e : Env} {s : State} {m : MethodId} {args : Array Value} {below : List Frame} {meth : Method} {c : Code} {D : va_G} {a n : Nat → Nat} {cA : Nat → ClassId} {A : Nat → Prop}
set_option maxHeartbeats 4000000 in
set_option maxRecDepth 100000 in
theorem lbX3_uneven_16 {K : Nat} (X : vzX D (MT cA) A wsX3_uneven cX3_uneven 4 (some .boolean) RX3 p s m args meth c) : ∀ (N : Nat) (x1 x2 x3 : Int32) (u : MU) (H : Heap) (locs : List Loc) (ls : Array Slot) (r : Int32) (u2 : MU), fX3_uneven_16 n K N x1 x2 x3 u = some (r, u2) → va_P D vwCl (MW a n cA u) H → va_D A (MW a n cA u) → va_S A s.heap H locs → lv_has ls 4 [(0, .ref (a 0)), (1, .int x1), (2, .int x2), (3, .int x3)] → W p l e (headSpec wsX3_uneven rmX3_uneven).room s m args below meth c H locs 0 0 (MQ below (vzQ D (MT cA) (MW a n cA) A r u2) args s 0 0 A) (F0 m 16 ls []) := by
  obtain ⟨hx, hb, hr, hml, hown, hts, hlk, hN, hK, hA⟩ := id X
  intro N
  induction N with
  | zero =>
    intro x1 x2 x3 u H locs ls r u2 hf
    cases hf
  | succ N ih =>
    intro x1 x2 x3 u H locs ls r u2 hf hP hD hS hl
    rw [fX3_uneven_16] at hf
    refine lv_iload_n hx hb dX3_uneven_16 rfl (lv_at hl 3 rfl) ?_
    refine lv_aload_n hx hb dX3_uneven_17 rfl (lv_at hl 0 rfl) ?_
    refine va_get (D := D) (ci := 3) (v := .int (mu_blk u)) (C := RX3) (T := TX3) (N := 16) hx hb hts in_X3_uneven_X3 hown hK hP 0 rfl rfl 0 (by decide) (hts _ (List.mem_of_getElem? (i := 2) rfl)) (fun _ h9 => h9) rfl dX3_uneven_18 ?_
    refine lv_icmp_ge (tgt := 72) hx hb dX3_uneven_21 (by decide) (fun c3 => ?_) (fun c3 => ?_)
    · have hf := ift c3 hf
      refine lv_iload_n hx hb dX3_uneven_72 rfl (lv_at hl 1 rfl) ?_
      refine lv_iload_n hx hb dX3_uneven_73 rfl (lv_at hl 2 rfl) ?_
      refine lv_isub hx hb dX3_uneven_74 ?_
      refine lv_aload_n hx hb dX3_uneven_75 rfl (lv_at hl 0 rfl) ?_
      refine va_get (D := D) (ci := 3) (v := .int (mu_spr u)) (C := RX3) (T := TX3) (N := 16) hx hb hts in_X3_uneven_X3 hown hK hP 0 rfl rfl 1 (by decide) (hts _ (List.mem_of_getElem? (i := 3) rfl)) (fun _ h9 => h9) rfl dX3_uneven_76 ?_
      refine lv_icmp_le (tgt := 86) hx hb dX3_uneven_79 (by decide) (fun c4 => ?_) (fun c4 => ?_)
      · have hf := ift c4 hf
        refine lv_iconst (v := zI 0) hx hb dX3_uneven_86 (by decide) ?_
        cases hf
        exact vz_zret X rfl hP hD hS dX3_uneven_87
      · have hf := iff_ c4 hf
        refine lv_iconst (v := zI 1) hx hb dX3_uneven_82 (by decide) ?_
        refine lv_goto (tgt := 87) hx hb dX3_uneven_83 (by decide) ?_
        cases hf
        exact vz_zret X rfl hP hD hS dX3_uneven_87
    · have hf := iff_ c3 hf
      refine lv_aload_n hx hb dX3_uneven_24 rfl (lv_at hl 0 rfl) ?_
      refine va_get (D := D) (ci := 3) (v := .ref (a 5)) (C := RX3) (T := TX3) (N := 16) hx hb hts in_X3_uneven_X3 hown hK hP 0 rfl rfl 6 (by decide) (hts _ (List.mem_of_getElem? (i := 1) rfl)) (fun _ h9 => h9) rfl dX3_uneven_25 ?_
      refine lv_iload_n hx hb dX3_uneven_28 rfl (lv_at hl 3 rfl) ?_
      obtain ⟨g5, hf⟩ := vgs hf
      refine va_iald hx hb hK hP 5 4 rfl rfl g5 dX3_uneven_29 ?_
      refine lv_iload_n hx hb dX3_uneven_30 rfl (lv_at hl 1 rfl) ?_
      refine lv_icmp_le (tgt := 43) hx hb dX3_uneven_31 (by decide) (fun c6 => ?_) (fun c6 => ?_)
      · have hf := ift c6 hf
        refine lv_iload_n hx hb dX3_uneven_43 rfl (lv_at hl 1 rfl) ?_
        refine lv_istore_n (lv' := [(1, .int x1), (0, .ref (a 0)), (2, .int x2), (3, .int x3)]) hx hb dX3_uneven_44 rfl hl (by decide) rfl (fun ls hl => ?_)
        refine lv_aload_n hx hb dX3_uneven_45 rfl (lv_at hl 1 rfl) ?_
        refine va_get (D := D) (ci := 3) (v := .ref (a 5)) (C := RX3) (T := TX3) (N := 16) hx hb hts in_X3_uneven_X3 hown hK hP 0 rfl rfl 6 (by decide) (hts _ (List.mem_of_getElem? (i := 1) rfl)) (fun _ h9 => h9) rfl dX3_uneven_46 ?_
        refine lv_iload_n hx hb dX3_uneven_49 rfl (lv_at hl 3 rfl) ?_
        obtain ⟨g7, hf⟩ := vgs hf
        refine va_iald hx hb hK hP 5 4 rfl rfl g7 dX3_uneven_50 ?_
        refine lv_iload_n hx hb dX3_uneven_51 rfl (lv_at hl 2 rfl) ?_
        refine lv_icmp_ge (tgt := 64) hx hb dX3_uneven_52 (by decide) (fun c8 => ?_) (fun c8 => ?_)
        · have hf := ift c8 hf
          refine lv_iload_n hx hb dX3_uneven_64 rfl (lv_at hl 2 rfl) ?_
          refine lv_istore_n (lv' := [(2, .int x2), (1, .int x1), (0, .ref (a 0)), (3, .int x3)]) hx hb dX3_uneven_65 rfl hl (by decide) rfl (fun ls hl => ?_)
          refine lv_iinc (v := x3 + (zI 1)) (lv' := [(3, .int (x3 + (zI 1))), (2, .int x2), (1, .int x1), (0, .ref (a 0))]) hx hb dX3_uneven_66 hl (k := 3) rfl rfl (by decide) rfl (fun ls hl => ?_)
          refine lv_goto (tgt := 16) hx hb dX3_uneven_69 (by decide) ?_
          exact ih x1 x2 (x3 + (zI 1)) u _ _ _ _ _ hf hP hD hS (lv_sub hl [3, 2, 1, 0] rfl)
        · have hf := iff_ c8 hf
          refine lv_aload_n hx hb dX3_uneven_55 rfl (lv_at hl 1 rfl) ?_
          refine va_get (D := D) (ci := 3) (v := .ref (a 5)) (C := RX3) (T := TX3) (N := 16) hx hb hts in_X3_uneven_X3 hown hK hP 0 rfl rfl 6 (by decide) (hts _ (List.mem_of_getElem? (i := 1) rfl)) (fun _ h9 => h9) rfl dX3_uneven_56 ?_
          refine lv_iload_n hx hb dX3_uneven_59 rfl (lv_at hl 3 rfl) ?_
          obtain ⟨g9, hf⟩ := vgs hf
          refine va_iald hx hb hK hP 5 4 rfl rfl g9 dX3_uneven_60 ?_
          refine lv_goto (tgt := 65) hx hb dX3_uneven_61 (by decide) ?_
          refine lv_istore_n (lv' := [(2, .int ((mu_era u) x3.toNatClampNeg)), (1, .int x1), (0, .ref (a 0)), (3, .int x3)]) hx hb dX3_uneven_65 rfl hl (by decide) rfl (fun ls hl => ?_)
          refine lv_iinc (v := x3 + (zI 1)) (lv' := [(3, .int (x3 + (zI 1))), (2, .int ((mu_era u) x3.toNatClampNeg)), (1, .int x1), (0, .ref (a 0))]) hx hb dX3_uneven_66 hl (k := 3) rfl rfl (by decide) rfl (fun ls hl => ?_)
          refine lv_goto (tgt := 16) hx hb dX3_uneven_69 (by decide) ?_
          exact ih x1 ((mu_era u) x3.toNatClampNeg) (x3 + (zI 1)) u _ _ _ _ _ hf hP hD hS (lv_sub hl [3, 2, 1, 0] rfl)
      · have hf := iff_ c6 hf
        refine lv_aload_n hx hb dX3_uneven_34 rfl (lv_at hl 0 rfl) ?_
        refine va_get (D := D) (ci := 3) (v := .ref (a 5)) (C := RX3) (T := TX3) (N := 16) hx hb hts in_X3_uneven_X3 hown hK hP 0 rfl rfl 6 (by decide) (hts _ (List.mem_of_getElem? (i := 1) rfl)) (fun _ h9 => h9) rfl dX3_uneven_35 ?_
        refine lv_iload_n hx hb dX3_uneven_38 rfl (lv_at hl 3 rfl) ?_
        obtain ⟨g10, hf⟩ := vgs hf
        refine va_iald hx hb hK hP 5 4 rfl rfl g10 dX3_uneven_39 ?_
        refine lv_goto (tgt := 44) hx hb dX3_uneven_40 (by decide) ?_
        refine lv_istore_n (lv' := [(1, .int ((mu_era u) x3.toNatClampNeg)), (0, .ref (a 0)), (2, .int x2), (3, .int x3)]) hx hb dX3_uneven_44 rfl hl (by decide) rfl (fun ls hl => ?_)
        refine lv_aload_n hx hb dX3_uneven_45 rfl (lv_at hl 1 rfl) ?_
        refine va_get (D := D) (ci := 3) (v := .ref (a 5)) (C := RX3) (T := TX3) (N := 16) hx hb hts in_X3_uneven_X3 hown hK hP 0 rfl rfl 6 (by decide) (hts _ (List.mem_of_getElem? (i := 1) rfl)) (fun _ h9 => h9) rfl dX3_uneven_46 ?_
        refine lv_iload_n hx hb dX3_uneven_49 rfl (lv_at hl 3 rfl) ?_
        obtain ⟨g11, hf⟩ := vgs hf
        refine va_iald hx hb hK hP 5 4 rfl rfl g11 dX3_uneven_50 ?_
        refine lv_iload_n hx hb dX3_uneven_51 rfl (lv_at hl 2 rfl) ?_
        refine lv_icmp_ge (tgt := 64) hx hb dX3_uneven_52 (by decide) (fun c12 => ?_) (fun c12 => ?_)
        · have hf := ift c12 hf
          refine lv_iload_n hx hb dX3_uneven_64 rfl (lv_at hl 2 rfl) ?_
          refine lv_istore_n (lv' := [(2, .int x2), (1, .int ((mu_era u) x3.toNatClampNeg)), (0, .ref (a 0)), (3, .int x3)]) hx hb dX3_uneven_65 rfl hl (by decide) rfl (fun ls hl => ?_)
          refine lv_iinc (v := x3 + (zI 1)) (lv' := [(3, .int (x3 + (zI 1))), (2, .int x2), (1, .int ((mu_era u) x3.toNatClampNeg)), (0, .ref (a 0))]) hx hb dX3_uneven_66 hl (k := 3) rfl rfl (by decide) rfl (fun ls hl => ?_)
          refine lv_goto (tgt := 16) hx hb dX3_uneven_69 (by decide) ?_
          exact ih ((mu_era u) x3.toNatClampNeg) x2 (x3 + (zI 1)) u _ _ _ _ _ hf hP hD hS (lv_sub hl [3, 2, 1, 0] rfl)
        · have hf := iff_ c12 hf
          refine lv_aload_n hx hb dX3_uneven_55 rfl (lv_at hl 1 rfl) ?_
          refine va_get (D := D) (ci := 3) (v := .ref (a 5)) (C := RX3) (T := TX3) (N := 16) hx hb hts in_X3_uneven_X3 hown hK hP 0 rfl rfl 6 (by decide) (hts _ (List.mem_of_getElem? (i := 1) rfl)) (fun _ h9 => h9) rfl dX3_uneven_56 ?_
          refine lv_iload_n hx hb dX3_uneven_59 rfl (lv_at hl 3 rfl) ?_
          obtain ⟨g13, hf⟩ := vgs hf
          refine va_iald hx hb hK hP 5 4 rfl rfl g13 dX3_uneven_60 ?_
          refine lv_goto (tgt := 65) hx hb dX3_uneven_61 (by decide) ?_
          refine lv_istore_n (lv' := [(2, .int ((mu_era u) x3.toNatClampNeg)), (1, .int ((mu_era u) x3.toNatClampNeg)), (0, .ref (a 0)), (3, .int x3)]) hx hb dX3_uneven_65 rfl hl (by decide) rfl (fun ls hl => ?_)
          refine lv_iinc (v := x3 + (zI 1)) (lv' := [(3, .int (x3 + (zI 1))), (2, .int ((mu_era u) x3.toNatClampNeg)), (1, .int ((mu_era u) x3.toNatClampNeg)), (0, .ref (a 0))]) hx hb dX3_uneven_66 hl (k := 3) rfl rfl (by decide) rfl (fun ls hl => ?_)
          refine lv_goto (tgt := 16) hx hb dX3_uneven_69 (by decide) ?_
          exact ih ((mu_era u) x3.toNatClampNeg) ((mu_era u) x3.toNatClampNeg) (x3 + (zI 1)) u _ _ _ _ _ hf hP hD hS (lv_sub hl [3, 2, 1, 0] rfl)
set_option maxHeartbeats 4000000 in
set_option maxRecDepth 100000 in
theorem lbX3_uneven_e {K : Nat} (X : vzX D (MT cA) A wsX3_uneven cX3_uneven 4 (some .boolean) RX3 p s m args meth c) : ∀ (u : MU) (H : Heap) (locs : List Loc) (ls : Array Slot) (r : Int32) (u2 : MU), fX3_uneven n K u = some (r, u2) → va_P D vwCl (MW a n cA u) H → va_D A (MW a n cA u) → va_S A s.heap H locs → lv_has ls 4 [(0, .ref (a 0))] → W p l e (headSpec wsX3_uneven rmX3_uneven).room s m args below meth c H locs 0 0 (MQ below (vzQ D (MT cA) (MW a n cA) A r u2) args s 0 0 A) (F0 m 0 ls []) := by
  obtain ⟨hx, hb, hr, hml, hown, hts, hlk, hN, hK, hA⟩ := id X
  intro u H locs ls r u2 hf hP hD hS hl
  unfold fX3_uneven at hf
  refine lv_aload_n hx hb dX3_uneven_0 rfl (lv_at hl 0 rfl) ?_
  refine va_get (D := D) (ci := 3) (v := .ref (a 5)) (C := RX3) (T := TX3) (N := 16) hx hb hts in_X3_uneven_X3 hown hK hP 0 rfl rfl 6 (by decide) (hts _ (List.mem_of_getElem? (i := 1) rfl)) (fun _ h9 => h9) rfl dX3_uneven_1 ?_
  refine lv_iconst (v := zI 0) hx hb dX3_uneven_4 (by decide) ?_
  obtain ⟨g1, hf⟩ := vgs hf
  refine va_iald hx hb hK hP 5 4 rfl rfl g1 dX3_uneven_5 ?_
  refine lv_istore_n (lv' := [(1, .int ((mu_era u) ((zI 0)).toNatClampNeg)), (0, .ref (a 0))]) hx hb dX3_uneven_6 rfl hl (by decide) rfl (fun ls hl => ?_)
  refine lv_aload_n hx hb dX3_uneven_7 rfl (lv_at hl 1 rfl) ?_
  refine va_get (D := D) (ci := 3) (v := .ref (a 5)) (C := RX3) (T := TX3) (N := 16) hx hb hts in_X3_uneven_X3 hown hK hP 0 rfl rfl 6 (by decide) (hts _ (List.mem_of_getElem? (i := 1) rfl)) (fun _ h9 => h9) rfl dX3_uneven_8 ?_
  refine lv_iconst (v := zI 0) hx hb dX3_uneven_11 (by decide) ?_
  obtain ⟨g2, hf⟩ := vgs hf
  refine va_iald hx hb hK hP 5 4 rfl rfl g2 dX3_uneven_12 ?_
  refine lv_istore_n (lv' := [(2, .int ((mu_era u) ((zI 0)).toNatClampNeg)), (1, .int ((mu_era u) ((zI 0)).toNatClampNeg)), (0, .ref (a 0))]) hx hb dX3_uneven_13 rfl hl (by decide) rfl (fun ls hl => ?_)
  refine lv_iconst (v := zI 1) hx hb dX3_uneven_14 (by decide) ?_
  refine lv_istore_n (lv' := [(3, .int (zI 1)), (2, .int ((mu_era u) ((zI 0)).toNatClampNeg)), (1, .int ((mu_era u) ((zI 0)).toNatClampNeg)), (0, .ref (a 0))]) hx hb dX3_uneven_15 rfl hl (by decide) rfl (fun ls hl => ?_)
  exact lbX3_uneven_16 X K ((mu_era u) ((zI 0)).toNatClampNeg) ((mu_era u) ((zI 0)).toNatClampNeg) (zI 1) u _ _ _ _ _ hf hP hD hS (lv_sub hl [3, 2, 1, 0] rfl)
end
theorem kX3_uneven {l : Launch} {D : va_G} {a n : Nat → Nat} {cA : Nat → ClassId} {K : Nat} {u : MU} {r : Int32} {u2 : MU} (h : fX3_uneven n K u = some (r, u2)) : vzC l D (MT cA) (MW a n cA) yX3_uneven wsX3_uneven rmX3_uneven [.ref (a 0)] u r u2 := vzC.of (by decide) rfl (Nat.le_of_ble_eq_true rfl) (fun p e s m below meth c A ls X hP hD hl => lbX3_uneven_e X u s.heap [] ls r u2 h hP hD va_S.rf hl)
abbrev rmX3_operates : Room := { frames := 0, cells := 0, slots := 0, locals := 0 }
theorem in_X3_operates_X3 : ∀ w ∈ u_ws RX3 TX3 16, w ∈ wsX3_operates := fun _ h => List.mem_cons_of_mem _ (List.mem_append_right _ h)
def fX3_operates (n : Nat → Nat) (K : Nat) (u : MU) : Option (Int32 × MU) := if (mu_fus u) = (zI 1) then (some (zI 0, mu_s_gon (mu_s_fus u (zI 0)) (zI 1))) else (if (mu_fus u) ≤ 0 then (some (zI 1, mu_s_ops (mu_s_fus u (zI 0)) ((mu_ops u) + (zI 1)))) else (some (zI 1, mu_s_ops (mu_s_fus u ((mu_fus u) - (zI 1))) ((mu_ops u) + (zI 1)))))
section
variable {p : Program} {l : Launch} {e : Env} {s : State} {m : MethodId} {args : Array Value} {below : List Frame} {meth : Method} {c : Code} {D : va_G} {a n : Nat → Nat} {cA : Nat → ClassId} {A : Nat → Prop}
set_option maxHeartbeats 4000000 in
set_option maxRecDepth 100000 in
theorem lbX3_operates_e {K : Nat} (X : vzX D (MT cA) A wsX3_operates cX3_operates 1 (some .boolean) RX3 p s m args meth c) : ∀ (u : MU) (H : Heap) (locs : List Loc) (ls : Array Slot) (r : Int32) (u2 : MU), fX3_operates n K u = some (r, u2) → va_P D vwCl (MW a n cA u) H → va_D A (MW a n cA u) → va_S A s.heap H locs → lv_has ls 1 [(0, .ref (a 0))] → W p l e (headSpec wsX3_operates rmX3_operates).room s m args below meth c H locs 0 0 (MQ below (vzQ D (MT cA) (MW a n cA) A r u2) args s 0 0 A) (F0 m 0 ls []) := by
  obtain ⟨hx, hb, hr, hml, hown, hts, hlk, hN, hK, hA⟩ := id X
  intro u H locs ls r u2 hf hP hD hS hl
  unfold fX3_operates at hf
  refine lv_aload_n hx hb dX3_operates_0 rfl (lv_at hl 0 rfl) ?_
  refine va_get (D := D) (ci := 3) (v := .int (mu_fus u)) (C := RX3) (T := TX3) (N := 16) hx hb hts in_X3_operates_X3 hown hK hP 0 rfl rfl 10 (by decide) (hts _ (List.mem_of_getElem? (i := 1) rfl)) (fun _ h9 => h9) rfl dX3_operates_1 ?_
  refine lv_iconst (v := zI 1) hx hb dX3_operates_4 (by decide) ?_
  refine lv_icmp_ne (tgt := 20) hx hb dX3_operates_5 (by decide) (fun c1 => ?_) (fun c1 => ?_)
  · have hf := iff_ c1 hf
    refine lv_aload_n hx hb dX3_operates_20 rfl (lv_at hl 0 rfl) ?_
    refine lv_aload_n hx hb dX3_operates_21 rfl (lv_at hl 0 rfl) ?_
    refine va_get (D := D) (ci := 3) (v := .int (mu_fus u)) (C := RX3) (T := TX3) (N := 16) hx hb hts in_X3_operates_X3 hown hK hP 0 rfl rfl 10 (by decide) (hts _ (List.mem_of_getElem? (i := 1) rfl)) (fun _ h9 => h9) rfl dX3_operates_22 ?_
    refine lv_if_le (tgt := 37) hx hb dX3_operates_25 (by decide) (fun c2 => ?_) (fun c2 => ?_)
    · have hf := ift c2 hf
      refine lv_iconst (v := zI 0) hx hb dX3_operates_37 (by decide) ?_
      refine va_put (D := D) (ci := 3) (v := .int (zI 0)) (ty := .int) (C := RX3) (T := TX3) (N := 16) hx hb hts in_X3_operates_X3 tyX3 tyX3_ok nmX3 hown hK hP hD hS 0 rfl rfl 10 (by decide) (hts _ (List.mem_of_getElem? (i := 1) rfl)) (fun _ h9 => h9) rfl (by decide +kernel) rfl rfl (Nat.le_of_ble_eq_true rfl) dX3_operates_38 (fun H locs hP hD hS => ?_)
      have hP : va_P D vwCl (MW a n cA (mu_s_fus u (zI 0))) H := hP
      have hD : va_D A (MW a n cA (mu_s_fus u (zI 0))) := hD
      refine lv_aload_n hx hb dX3_operates_41 rfl (lv_at hl 0 rfl) ?_
      refine lv_dup hx hb dX3_operates_42 rfl ?_
      refine va_get (D := D) (ci := 3) (v := .int (mu_ops u)) (C := RX3) (T := TX3) (N := 16) hx hb hts in_X3_operates_X3 hown hK hP 0 rfl rfl 9 (by decide) (hts _ (List.mem_of_getElem? (i := 3) rfl)) (fun _ h9 => h9) rfl dX3_operates_43 ?_
      refine lv_iconst (v := zI 1) hx hb dX3_operates_46 (by decide) ?_
      refine lv_iadd hx hb dX3_operates_47 ?_
      refine va_put (D := D) (ci := 3) (v := .int ((mu_ops u) + (zI 1))) (ty := .int) (C := RX3) (T := TX3) (N := 16) hx hb hts in_X3_operates_X3 tyX3 tyX3_ok nmX3 hown hK hP hD hS 0 rfl rfl 9 (by decide) (hts _ (List.mem_of_getElem? (i := 3) rfl)) (fun _ h9 => h9) rfl (by decide +kernel) rfl rfl (Nat.le_of_ble_eq_true rfl) dX3_operates_48 (fun H locs hP hD hS => ?_)
      have hP : va_P D vwCl (MW a n cA (mu_s_ops (mu_s_fus u (zI 0)) ((mu_ops u) + (zI 1)))) H := hP
      have hD : va_D A (MW a n cA (mu_s_ops (mu_s_fus u (zI 0)) ((mu_ops u) + (zI 1)))) := hD
      refine lv_iconst (v := zI 1) hx hb dX3_operates_51 (by decide) ?_
      cases hf
      exact vz_zret X rfl hP hD hS dX3_operates_52
    · have hf := iff_ c2 hf
      refine lv_aload_n hx hb dX3_operates_28 rfl (lv_at hl 0 rfl) ?_
      refine va_get (D := D) (ci := 3) (v := .int (mu_fus u)) (C := RX3) (T := TX3) (N := 16) hx hb hts in_X3_operates_X3 hown hK hP 0 rfl rfl 10 (by decide) (hts _ (List.mem_of_getElem? (i := 1) rfl)) (fun _ h9 => h9) rfl dX3_operates_29 ?_
      refine lv_iconst (v := zI 1) hx hb dX3_operates_32 (by decide) ?_
      refine lv_isub hx hb dX3_operates_33 ?_
      refine lv_goto (tgt := 38) hx hb dX3_operates_34 (by decide) ?_
      refine va_put (D := D) (ci := 3) (v := .int ((mu_fus u) - (zI 1))) (ty := .int) (C := RX3) (T := TX3) (N := 16) hx hb hts in_X3_operates_X3 tyX3 tyX3_ok nmX3 hown hK hP hD hS 0 rfl rfl 10 (by decide) (hts _ (List.mem_of_getElem? (i := 1) rfl)) (fun _ h9 => h9) rfl (by decide +kernel) rfl rfl (Nat.le_of_ble_eq_true rfl) dX3_operates_38 (fun H locs hP hD hS => ?_)
      have hP : va_P D vwCl (MW a n cA (mu_s_fus u ((mu_fus u) - (zI 1)))) H := hP
      have hD : va_D A (MW a n cA (mu_s_fus u ((mu_fus u) - (zI 1)))) := hD
      refine lv_aload_n hx hb dX3_operates_41 rfl (lv_at hl 0 rfl) ?_
      refine lv_dup hx hb dX3_operates_42 rfl ?_
      refine va_get (D := D) (ci := 3) (v := .int (mu_ops u)) (C := RX3) (T := TX3) (N := 16) hx hb hts in_X3_operates_X3 hown hK hP 0 rfl rfl 9 (by decide) (hts _ (List.mem_of_getElem? (i := 3) rfl)) (fun _ h9 => h9) rfl dX3_operates_43 ?_
      refine lv_iconst (v := zI 1) hx hb dX3_operates_46 (by decide) ?_
      refine lv_iadd hx hb dX3_operates_47 ?_
      refine va_put (D := D) (ci := 3) (v := .int ((mu_ops u) + (zI 1))) (ty := .int) (C := RX3) (T := TX3) (N := 16) hx hb hts in_X3_operates_X3 tyX3 tyX3_ok nmX3 hown hK hP hD hS 0 rfl rfl 9 (by decide) (hts _ (List.mem_of_getElem? (i := 3) rfl)) (fun _ h9 => h9) rfl (by decide +kernel) rfl rfl (Nat.le_of_ble_eq_true rfl) dX3_operates_48 (fun H locs hP hD hS => ?_)
      have hP : va_P D vwCl (MW a n cA (mu_s_ops (mu_s_fus u ((mu_fus u) - (zI 1))) ((mu_ops u) + (zI 1)))) H := hP
      have hD : va_D A (MW a n cA (mu_s_ops (mu_s_fus u ((mu_fus u) - (zI 1))) ((mu_ops u) + (zI 1)))) := hD
      refine lv_iconst (v := zI 1) hx hb dX3_operates_51 (by decide) ?_
      cases hf
      exact vz_zret X rfl hP hD hS dX3_operates_52
  · have hf := ift c1 hf
    refine lv_aload_n hx hb dX3_operates_8 rfl (lv_at hl 0 rfl) ?_
    refine lv_iconst (v := zI 0) hx hb dX3_operates_9 (by decide) ?_
    refine va_put (D := D) (ci := 3) (v := .int (zI 0)) (ty := .int) (C := RX3) (T := TX3) (N := 16) hx hb hts in_X3_operates_X3 tyX3 tyX3_ok nmX3 hown hK hP hD hS 0 rfl rfl 10 (by decide) (hts _ (List.mem_of_getElem? (i := 1) rfl)) (fun _ h9 => h9) rfl (by decide +kernel) rfl rfl (Nat.le_of_ble_eq_true rfl) dX3_operates_10 (fun H locs hP hD hS => ?_)
    have hP : va_P D vwCl (MW a n cA (mu_s_fus u (zI 0))) H := hP
    have hD : va_D A (MW a n cA (mu_s_fus u (zI 0))) := hD
    refine lv_aload_n hx hb dX3_operates_13 rfl (lv_at hl 0 rfl) ?_
    refine lv_iconst (v := zI 1) hx hb dX3_operates_14 (by decide) ?_
    refine va_put (D := D) (ci := 3) (v := .int (zI 1)) (ty := .boolean) (C := RX3) (T := TX3) (N := 16) hx hb hts in_X3_operates_X3 tyX3 tyX3_ok nmX3 hown hK hP hD hS 0 rfl rfl 11 (by decide) (hts _ (List.mem_of_getElem? (i := 2) rfl)) (fun _ h9 => h9) rfl (by decide +kernel) rfl rfl (Nat.le_of_ble_eq_true rfl) dX3_operates_15 (fun H locs hP hD hS => ?_)
    have hP : va_P D vwCl (MW a n cA (mu_s_gon (mu_s_fus u (zI 0)) (zI 1))) H := hP
    have hD : va_D A (MW a n cA (mu_s_gon (mu_s_fus u (zI 0)) (zI 1))) := hD
    refine lv_iconst (v := zI 0) hx hb dX3_operates_18 (by decide) ?_
    cases hf
    exact vz_zret X rfl hP hD hS dX3_operates_19
end
theorem kX3_operates {l : Launch} {D : va_G} {a n : Nat → Nat} {cA : Nat → ClassId} {K : Nat} {u : MU} {r : Int32} {u2 : MU} (h : fX3_operates n K u = some (r, u2)) : vzC l D (MT cA) (MW a n cA) yX3_operates wsX3_operates rmX3_operates [.ref (a 0)] u r u2 := vzC.of (by decide) rfl (Nat.le_of_ble_eq_true rfl) (fun p e s m below meth c A ls X hP hD hl => lbX3_operates_e X u s.heap [] ls r u2 h hP hD va_S.rf hl)
