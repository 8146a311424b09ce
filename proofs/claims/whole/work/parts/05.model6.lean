abbrev rmX3_find : Room := { frames := 0, cells := 0, slots := 0, locals := 0 }
theorem in_X3_find_X3 : ∀ w ∈ u_ws RX3 TX3 16, w ∈ wsX3_find := fun _ h => List.mem_cons_of_mem _ (List.mem_append_right _ h)
def fX3_find_2 (n : Nat → Nat) (K : Nat) : Nat → Int32 → Int32 → MU → Option (Int32 × MU)
  | 0, _, _, _ => none
  | N + 1, x1, x2, u => if (mu_ent u) ≤ x2 then (some (zI (-1), u)) else (vg x2 (n 6) (if ((mu_ese u) x2.toNatClampNeg) = x1 then (some (x2, u)) else (fX3_find_2 n K N x1 (x2 + (zI 1)) u)))
def fX3_find (n : Nat → Nat) (K : Nat) (x1 : Int32) (u : MU) : Option (Int32 × MU) := fX3_find_2 n K K x1 (zI 0) u
section
variable {p : Program} {l : Launch} {e : Env} {s : State} {m : MethodId} {args : Array Value} {below : List Frame} {meth : Method} {c : Code} {D : va_G} {a n : Nat → Nat} {cA : Nat → ClassId} {A : Nat → Prop}
set_option maxHeartbeats 4000000 in
set_option maxRecDepth 100000 in
theorem lbX3_find_2 {K : Nat} (X : vzX D (MT cA) A wsX3_find cX3_find 3 (some .int) RX3 p s m args meth c) : ∀ (N : Nat) (x1 x2 : Int32) (u : MU) (H : Heap) (locs : List Loc) (ls : Array Slot) (r : Int32) (u2 : MU), fX3_find_2 n K N x1 x2 u = some (r, u2) → va_P D vwCl (MW a n cA u) H → va_D A (MW a n cA u) → va_S A s.heap H locs → lv_has ls 3 [(0, .ref (a 0)), (1, .int x1), (2, .int x2)] → W p l e (headSpec wsX3_find rmX3_find).room s m args below meth c H locs 0 0 (MQ below (vzQ D (MT cA) (MW a n cA) A r u2) args s 0 0 A) (F0 m 2 ls []) := by
  obtain ⟨hx, hb, hr, hml, hown, hts, hlk, hN, hK, hA⟩ := id X
  intro N
  induction N with
  | zero =>
    intro x1 x2 u H locs ls r u2 hf
    cases hf
  | succ N ih =>
    intro x1 x2 u H locs ls r u2 hf hP hD hS hl
    rw [fX3_find_2] at hf
    refine lv_iload_n hx hb dX3_find_2 rfl (lv_at hl 2 rfl) ?_
    refine lv_aload_n hx hb dX3_find_3 rfl (lv_at hl 0 rfl) ?_
    refine va_get (D := D) (ci := 3) (v := .int (mu_ent u)) (C := RX3) (T := TX3) (N := 16) hx hb hts in_X3_find_X3 hown hK hP 0 rfl rfl 12 (by decide) (hts _ (List.mem_of_getElem? (i := 1) rfl)) (fun _ h9 => h9) rfl dX3_find_4 ?_
    refine lv_icmp_ge (tgt := 28) hx hb dX3_find_7 (by decide) (fun c1 => ?_) (fun c1 => ?_)
    · have hf := ift c1 hf
      refine lv_iconst (v := zI (-1)) hx hb dX3_find_28 (by decide) ?_
      cases hf
      exact vz_iret X hP hD hS dX3_find_29
    · have hf := iff_ c1 hf
      refine lv_aload_n hx hb dX3_find_10 rfl (lv_at hl 0 rfl) ?_
      refine va_get (D := D) (ci := 3) (v := .ref (a 6)) (C := RX3) (T := TX3) (N := 16) hx hb hts in_X3_find_X3 hown hK hP 0 rfl rfl 13 (by decide) (hts _ (List.mem_of_getElem? (i := 2) rfl)) (fun _ h9 => h9) rfl dX3_find_11 ?_
      refine lv_iload_n hx hb dX3_find_14 rfl (lv_at hl 2 rfl) ?_
      obtain ⟨g2, hf⟩ := vgs hf
      refine va_iald hx hb hK hP 6 5 rfl rfl g2 dX3_find_15 ?_
      refine lv_iload_n hx hb dX3_find_16 rfl (lv_at hl 1 rfl) ?_
      refine lv_icmp_ne (tgt := 22) hx hb dX3_find_17 (by decide) (fun c3 => ?_) (fun c3 => ?_)
      · have hf := iff_ c3 hf
        refine lv_iinc (v := x2 + (zI 1)) (lv' := [(2, .int (x2 + (zI 1))), (0, .ref (a 0)), (1, .int x1)]) hx hb dX3_find_22 hl (k := 2) rfl rfl (by decide) rfl (fun ls hl => ?_)
        refine lv_goto (tgt := 2) hx hb dX3_find_25 (by decide) ?_
        exact ih x1 (x2 + (zI 1)) u _ _ _ _ _ hf hP hD hS (lv_sub hl [1, 2, 0] rfl)
      · have hf := ift c3 hf
        refine lv_iload_n hx hb dX3_find_20 rfl (lv_at hl 2 rfl) ?_
        cases hf
        exact vz_iret X hP hD hS dX3_find_21
set_option maxHeartbeats 4000000 in
set_option maxRecDepth 100000 in
theorem lbX3_find_e {K : Nat} (X : vzX D (MT cA) A wsX3_find cX3_find 3 (some .int) RX3 p s m args meth c) : ∀ (x1 : Int32) (u : MU) (H : Heap) (locs : List Loc) (ls : Array Slot) (r : Int32) (u2 : MU), fX3_find n K x1 u = some (r, u2) → va_P D vwCl (MW a n cA u) H → va_D A (MW a n cA u) → va_S A s.heap H locs → lv_has ls 3 [(0, .ref (a 0)), (1, .int x1)] → W p l e (headSpec wsX3_find rmX3_find).room s m args below meth c H locs 0 0 (MQ below (vzQ D (MT cA) (MW a n cA) A r u2) args s 0 0 A) (F0 m 0 ls []) := by
  obtain ⟨hx, hb, hr, hml, hown, hts, hlk, hN, hK, hA⟩ := id X
  intro x1 u H locs ls r u2 hf hP hD hS hl
  unfold fX3_find at hf
  refine lv_iconst (v := zI 0) hx hb dX3_find_0 (by decide) ?_
  refine lv_istore_n (lv' := [(2, .int (zI 0)), (0, .ref (a 0)), (1, .int x1)]) hx hb dX3_find_1 rfl hl (by decide) rfl (fun ls hl => ?_)
  exact lbX3_find_2 X K x1 (zI 0) u _ _ _ _ _ hf hP hD hS (lv_sub hl [1, 2, 0] rfl)
end
theorem kX3_find {l : Launch} {D : va_G} {a n : Nat → Nat} {cA : Nat → ClassId} {K : Nat} {x1 : Int32} {u : MU} {r : Int32} {u2 : MU} (h : fX3_find n K x1 u = some (r, u2)) : vzC l D (MT cA) (MW a n cA) yX3_find wsX3_find rmX3_find [.ref (a 0), .int x1] u r u2 := vzC.of (by decide) rfl (Nat.le_of_ble_eq_true rfl) (fun p e s m below meth c A ls X hP hD hl => lbX3_find_e X x1 u s.heap [] ls r u2 h hP hD va_S.rf hl)
abbrev rmX3_change : Room := { frames := 6, cells := 0, slots := 0, locals := 138 }
theorem in_X3_change_X3 : ∀ w ∈ u_ws RX3 TX3 16, w ∈ wsX3_change := fun _ h => List.mem_cons_of_mem _ (List.mem_append_right _ h)
def fX3_change (n : Nat → Nat) (K : Nat) (x1 x2 x3 : Int32) (u : MU) : Option (Int32 × MU) := (fX3_isSector n K x1 u).bind fun z1 => (if z1.1 = 0 then (some (zI (-1), z1.2)) else ((fX3_find n K x1 z1.2).bind fun z4 => (if z4.1 = (zI (-1)) then (if (mu_ent z4.2) = (zI 3) then ((fX3_store n K z4.2).bind fun z16 => (if z16.1 = 0 then ((fX3_cut n K z16.2).bind fun z23 => (some (zI 1, z23))) else (vg (mu_ent z16.2) (n 6) (vg (mu_ent z16.2) (n 7) (vg (mu_ent z16.2) (n 8) (some (zI 0, mu_s_eso (mu_s_eva (mu_s_ese (mu_s_ent z16.2 ((mu_ent z16.2) + (zI 1))) (upd (mu_ese z16.2) ((mu_ent z16.2)).toNatClampNeg x1)) (upd (mu_eva z16.2) ((mu_ent z16.2)).toNatClampNeg x2)) (upd (mu_eso z16.2) ((mu_ent z16.2)).toNatClampNeg x3)))))))) else (vg (mu_ent z4.2) (n 6) (vg (mu_ent z4.2) (n 7) (vg (mu_ent z4.2) (n 8) (some (zI 0, mu_s_eso (mu_s_eva (mu_s_ese (mu_s_ent z4.2 ((mu_ent z4.2) + (zI 1))) (upd (mu_ese z4.2) ((mu_ent z4.2)).toNatClampNeg x1)) (upd (mu_eva z4.2) ((mu_ent z4.2)).toNatClampNeg x2)) (upd (mu_eso z4.2) ((mu_ent z4.2)).toNatClampNeg x3))))))) else (vg z4.1 (n 6) (vg z4.1 (n 7) (vg z4.1 (n 8) (some (zI 0, mu_s_eso (mu_s_eva (mu_s_ese z4.2 (upd (mu_ese z4.2) (z4.1).toNatClampNeg x1)) (upd (mu_eva z4.2) (z4.1).toNatClampNeg x2)) (upd (mu_eso z4.2) (z4.1).toNatClampNeg x3)))))))))
section
variable {p : Program} {l : Launch} {e : Env} {s : State} {m : MethodId} {args : Array Value} {below : List Frame} {meth : Method} {c : Code} {D : va_G} {a n : Nat → Nat} {cA : Nat → ClassId} {A : Nat → Prop}
set_option maxHeartbeats 4000000 in
set_option maxRecDepth 100000 in
theorem lbX3_change_e {K : Nat} (X : vzX D (MT cA) A wsX3_change cX3_change 5 (some .int) RX3 p s m args meth c) : ∀ (x1 x2 x3 : Int32) (u : MU) (H : Heap) (locs : List Loc) (ls : Array Slot) (r : Int32) (u2 : MU), fX3_change n K x1 x2 x3 u = some (r, u2) → va_P D vwCl (MW a n cA u) H → va_D A (MW a n cA u) → va_S A s.heap H locs → lv_has ls 5 [(0, .ref (a 0)), (1, .int x1), (2, .int x2), (3, .int x3)] → W p l e (headSpec wsX3_change rmX3_change).room s m args below meth c H locs 0 0 (MQ below (vzQ D (MT cA) (MW a n cA) A r u2) args s 0 0 A) (F0 m 0 ls []) := by
  obtain ⟨hx, hb, hr, hml, hown, hts, hlk, hN, hK, hA⟩ := id X
  intro x1 x2 x3 u H locs ls r u2 hf hP hD hS hl
  unfold fX3_change at hf
  refine lv_aload_n hx hb dX3_change_0 rfl (lv_at hl 0 rfl) ?_
  refine lv_iload_n hx hb dX3_change_1 rfl (lv_at hl 1 rfl) ?_
  obtain ⟨z1, hz2, hf⟩ := bd hf
  refine vz_call (rest := []) X (kX3_isSector hz2) (cwV 1 hts gX3_change_X3_isSector rfl rfl rfl (by decide +kernel) ⟨Nat.le_of_ble_eq_true rfl, Nat.le_of_ble_eq_true rfl⟩) 0 3 rfl rfl rfl hl.1 rfl (Nat.le_of_ble_eq_true rfl) dX3_change_2 ⟨Nat.zero_le _, Nat.zero_le _⟩ hP hD hS (fun H locs hP hD hS => ?_)
  refine lv_if_ne (tgt := 10) hx hb dX3_change_5 (by decide) (fun c3 => ?_) (fun c3 => ?_)
  · have hf := iff_ c3 hf
    refine lv_aload_n hx hb dX3_change_10 rfl (lv_at hl 0 rfl) ?_
    refine lv_iload_n hx hb dX3_change_11 rfl (lv_at hl 1 rfl) ?_
    obtain ⟨z4, hz5, hf⟩ := bd hf
    refine vz_call (rest := []) X (kX3_find hz5) (cwV 1 hts gX3_change_X3_find rfl rfl rfl (by decide +kernel) ⟨Nat.le_of_ble_eq_true rfl, Nat.le_of_ble_eq_true rfl⟩) 0 3 rfl rfl rfl hl.1 rfl (Nat.le_of_ble_eq_true rfl) dX3_change_12 ⟨Nat.zero_le _, Nat.zero_le _⟩ hP hD hS (fun H locs hP hD hS => ?_)
    refine lv_istore (lv' := [(4, .int z4.1), (0, .ref (a 0)), (1, .int x1), (2, .int x2), (3, .int x3)]) hx hb dX3_change_15 hl (by decide) rfl (fun ls hl => ?_)
    refine lv_iload hx hb dX3_change_17 (lv_at hl 0 rfl) ?_
    refine lv_iconst (v := zI (-1)) hx hb dX3_change_19 (by decide) ?_
    refine lv_icmp_ne (tgt := 44) hx hb dX3_change_20 (by decide) (fun c6 => ?_) (fun c6 => ?_)
    · have hf := iff_ c6 hf
      refine lv_iload hx hb dX3_change_44 (lv_at hl 0 rfl) ?_
      refine lv_iconst (v := zI (-1)) hx hb dX3_change_46 (by decide) ?_
      refine lv_icmp_ne (tgt := 66) hx hb dX3_change_47 (by decide) (fun c7 => ?_) (fun c7 => absurd c7 c6)
      refine lv_aload_n hx hb dX3_change_66 rfl (lv_at hl 1 rfl) ?_
      refine va_get (D := D) (ci := 3) (v := .ref (a 6)) (C := RX3) (T := TX3) (N := 16) hx hb hts in_X3_change_X3 hown hK hP 0 rfl rfl 13 (by decide) (hts _ (List.mem_of_getElem? (i := 2) rfl)) (fun _ h9 => h9) rfl dX3_change_67 ?_
      refine lv_iload hx hb dX3_change_70 (lv_at hl 0 rfl) ?_
      refine lv_iload_n hx hb dX3_change_72 rfl (lv_at hl 2 rfl) ?_
      obtain ⟨g8, hf⟩ := vgs hf
      refine va_iast hx hb hK hP hD hS 6 5 rfl rfl g8 dX3_change_73 (fun H locs hP hD hS => ?_)
      have hP : va_P D vwCl (MW a n cA (mu_s_ese z4.2 (upd (mu_ese z4.2) (z4.1).toNatClampNeg x1))) H := hP
      have hD : va_D A (MW a n cA (mu_s_ese z4.2 (upd (mu_ese z4.2) (z4.1).toNatClampNeg x1))) := hD
      refine lv_aload_n hx hb dX3_change_74 rfl (lv_at hl 1 rfl) ?_
      refine va_get (D := D) (ci := 3) (v := .ref (a 7)) (C := RX3) (T := TX3) (N := 16) hx hb hts in_X3_change_X3 hown hK hP 0 rfl rfl 14 (by decide) (hts _ (List.mem_of_getElem? (i := 3) rfl)) (fun _ h9 => h9) rfl dX3_change_75 ?_
      refine lv_iload hx hb dX3_change_78 (lv_at hl 0 rfl) ?_
      refine lv_iload_n hx hb dX3_change_80 rfl (lv_at hl 3 rfl) ?_
      obtain ⟨g9, hf⟩ := vgs hf
      refine va_iast hx hb hK hP hD hS 7 6 rfl rfl g9 dX3_change_81 (fun H locs hP hD hS => ?_)
      have hP : va_P D vwCl (MW a n cA (mu_s_eva (mu_s_ese z4.2 (upd (mu_ese z4.2) (z4.1).toNatClampNeg x1)) (upd (mu_eva z4.2) (z4.1).toNatClampNeg x2))) H := hP
      have hD : va_D A (MW a n cA (mu_s_eva (mu_s_ese z4.2 (upd (mu_ese z4.2) (z4.1).toNatClampNeg x1)) (upd (mu_eva z4.2) (z4.1).toNatClampNeg x2))) := hD
      refine lv_aload_n hx hb dX3_change_82 rfl (lv_at hl 1 rfl) ?_
      refine va_get (D := D) (ci := 3) (v := .ref (a 8)) (C := RX3) (T := TX3) (N := 16) hx hb hts in_X3_change_X3 hown hK hP 0 rfl rfl 15 (by decide) (hts _ (List.mem_of_getElem? (i := 4) rfl)) (fun _ h9 => h9) rfl dX3_change_83 ?_
      refine lv_iload hx hb dX3_change_86 (lv_at hl 0 rfl) ?_
      refine lv_iload_n hx hb dX3_change_88 rfl (lv_at hl 4 rfl) ?_
      obtain ⟨g10, hf⟩ := vgs hf
      refine va_iast hx hb hK hP hD hS 8 7 rfl rfl g10 dX3_change_89 (fun H locs hP hD hS => ?_)
      have hP : va_P D vwCl (MW a n cA (mu_s_eso (mu_s_eva (mu_s_ese z4.2 (upd (mu_ese z4.2) (z4.1).toNatClampNeg x1)) (upd (mu_eva z4.2) (z4.1).toNatClampNeg x2)) (upd (mu_eso z4.2) (z4.1).toNatClampNeg x3))) H := hP
      have hD : va_D A (MW a n cA (mu_s_eso (mu_s_eva (mu_s_ese z4.2 (upd (mu_ese z4.2) (z4.1).toNatClampNeg x1)) (upd (mu_eva z4.2) (z4.1).toNatClampNeg x2)) (upd (mu_eso z4.2) (z4.1).toNatClampNeg x3))) := hD
      refine lv_iconst (v := zI 0) hx hb dX3_change_90 (by decide) ?_
      cases hf
      exact vz_iret X hP hD hS dX3_change_91
    · have hf := ift c6 hf
      refine lv_aload_n hx hb dX3_change_23 rfl (lv_at hl 1 rfl) ?_
      refine va_get (D := D) (ci := 3) (v := .int (mu_ent z4.2)) (C := RX3) (T := TX3) (N := 16) hx hb hts in_X3_change_X3 hown hK hP 0 rfl rfl 12 (by decide) (hts _ (List.mem_of_getElem? (i := 1) rfl)) (fun _ h9 => h9) rfl dX3_change_24 ?_
      refine lv_iconst (v := zI 3) hx hb dX3_change_27 (by decide) ?_
      refine lv_icmp_ne (tgt := 44) hx hb dX3_change_28 (by decide) (fun c11 => ?_) (fun c11 => ?_)
      · have hf := iff_ c11 hf
        refine lv_iload hx hb dX3_change_44 (lv_at hl 0 rfl) ?_
        refine lv_iconst (v := zI (-1)) hx hb dX3_change_46 (by decide) ?_
        refine lv_icmp_ne (tgt := 66) hx hb dX3_change_47 (by decide) (fun c12 => absurd c6 c12) (fun c12 => ?_)
        refine lv_aload_n hx hb dX3_change_50 rfl (lv_at hl 1 rfl) ?_
        refine va_get (D := D) (ci := 3) (v := .int (mu_ent z4.2)) (C := RX3) (T := TX3) (N := 16) hx hb hts in_X3_change_X3 hown hK hP 0 rfl rfl 12 (by decide) (hts _ (List.mem_of_getElem? (i := 1) rfl)) (fun _ h9 => h9) rfl dX3_change_51 ?_
        refine lv_istore (lv' := [(4, .int (mu_ent z4.2)), (0, .ref (a 0)), (1, .int x1), (2, .int x2), (3, .int x3)]) hx hb dX3_change_54 hl (by decide) rfl (fun ls hl => ?_)
        refine lv_aload_n hx hb dX3_change_56 rfl (lv_at hl 1 rfl) ?_
        refine lv_dup hx hb dX3_change_57 rfl ?_
        refine va_get (D := D) (ci := 3) (v := .int (mu_ent z4.2)) (C := RX3) (T := TX3) (N := 16) hx hb hts in_X3_change_X3 hown hK hP 0 rfl rfl 12 (by decide) (hts _ (List.mem_of_getElem? (i := 1) rfl)) (fun _ h9 => h9) rfl dX3_change_58 ?_
        refine lv_iconst (v := zI 1) hx hb dX3_change_61 (by decide) ?_
        refine lv_iadd hx hb dX3_change_62 ?_
        refine va_put (D := D) (ci := 3) (v := .int ((mu_ent z4.2) + (zI 1))) (ty := .int) (C := RX3) (T := TX3) (N := 16) hx hb hts in_X3_change_X3 tyX3 tyX3_ok nmX3 hown hK hP hD hS 0 rfl rfl 12 (by decide) (hts _ (List.mem_of_getElem? (i := 1) rfl)) (fun _ h9 => h9) rfl (by decide +kernel) rfl rfl (Nat.le_of_ble_eq_true rfl) dX3_change_63 (fun H locs hP hD hS => ?_)
        have hP : va_P D vwCl (MW a n cA (mu_s_ent z4.2 ((mu_ent z4.2) + (zI 1)))) H := hP
        have hD : va_D A (MW a n cA (mu_s_ent z4.2 ((mu_ent z4.2) + (zI 1)))) := hD
        refine lv_aload_n hx hb dX3_change_66 rfl (lv_at hl 1 rfl) ?_
        refine va_get (D := D) (ci := 3) (v := .ref (a 6)) (C := RX3) (T := TX3) (N := 16) hx hb hts in_X3_change_X3 hown hK hP 0 rfl rfl 13 (by decide) (hts _ (List.mem_of_getElem? (i := 2) rfl)) (fun _ h9 => h9) rfl dX3_change_67 ?_
        refine lv_iload hx hb dX3_change_70 (lv_at hl 0 rfl) ?_
        refine lv_iload_n hx hb dX3_change_72 rfl (lv_at hl 2 rfl) ?_
        obtain ⟨g13, hf⟩ := vgs hf
        refine va_iast hx hb hK hP hD hS 6 5 rfl rfl g13 dX3_change_73 (fun H locs hP hD hS => ?_)
        have hP : va_P D vwCl (MW a n cA (mu_s_ese (mu_s_ent z4.2 ((mu_ent z4.2) + (zI 1))) (upd (mu_ese z4.2) ((mu_ent z4.2)).toNatClampNeg x1))) H := hP
        have hD : va_D A (MW a n cA (mu_s_ese (mu_s_ent z4.2 ((mu_ent z4.2) + (zI 1))) (upd (mu_ese z4.2) ((mu_ent z4.2)).toNatClampNeg x1))) := hD
        refine lv_aload_n hx hb dX3_change_74 rfl (lv_at hl 1 rfl) ?_
        refine va_get (D := D) (ci := 3) (v := .ref (a 7)) (C := RX3) (T := TX3) (N := 16) hx hb hts in_X3_change_X3 hown hK hP 0 rfl rfl 14 (by decide) (hts _ (List.mem_of_getElem? (i := 3) rfl)) (fun _ h9 => h9) rfl dX3_change_75 ?_
        refine lv_iload hx hb dX3_change_78 (lv_at hl 0 rfl) ?_
        refine lv_iload_n hx hb dX3_change_80 rfl (lv_at hl 3 rfl) ?_
        obtain ⟨g14, hf⟩ := vgs hf
        refine va_iast hx hb hK hP hD hS 7 6 rfl rfl g14 dX3_change_81 (fun H locs hP hD hS => ?_)
        have hP : va_P D vwCl (MW a n cA (mu_s_eva (mu_s_ese (mu_s_ent z4.2 ((mu_ent z4.2) + (zI 1))) (upd (mu_ese z4.2) ((mu_ent z4.2)).toNatClampNeg x1)) (upd (mu_eva z4.2) ((mu_ent z4.2)).toNatClampNeg x2))) H := hP
        have hD : va_D A (MW a n cA (mu_s_eva (mu_s_ese (mu_s_ent z4.2 ((mu_ent z4.2) + (zI 1))) (upd (mu_ese z4.2) ((mu_ent z4.2)).toNatClampNeg x1)) (upd (mu_eva z4.2) ((mu_ent z4.2)).toNatClampNeg x2))) := hD
        refine lv_aload_n hx hb dX3_change_82 rfl (lv_at hl 1 rfl) ?_
        refine va_get (D := D) (ci := 3) (v := .ref (a 8)) (C := RX3) (T := TX3) (N := 16) hx hb hts in_X3_change_X3 hown hK hP 0 rfl rfl 15 (by decide) (hts _ (List.mem_of_getElem? (i := 4) rfl)) (fun _ h9 => h9) rfl dX3_change_83 ?_
        refine lv_iload hx hb dX3_change_86 (lv_at hl 0 rfl) ?_
        refine lv_iload_n hx hb dX3_change_88 rfl (lv_at hl 4 rfl) ?_
        obtain ⟨g15, hf⟩ := vgs hf
        refine va_iast hx hb hK hP hD hS 8 7 rfl rfl g15 dX3_change_89 (fun H locs hP hD hS => ?_)
        have hP : va_P D vwCl (MW a n cA (mu_s_eso (mu_s_eva (mu_s_ese (mu_s_ent z4.2 ((mu_ent z4.2) + (zI 1))) (upd (mu_ese z4.2) ((mu_ent z4.2)).toNatClampNeg x1)) (upd (mu_eva z4.2) ((mu_ent z4.2)).toNatClampNeg x2)) (upd (mu_eso z4.2) ((mu_ent z4.2)).toNatClampNeg x3))) H := hP
        have hD : va_D A (MW a n cA (mu_s_eso (mu_s_eva (mu_s_ese (mu_s_ent z4.2 ((mu_ent z4.2) + (zI 1))) (upd (mu_ese z4.2) ((mu_ent z4.2)).toNatClampNeg x1)) (upd (mu_eva z4.2) ((mu_ent z4.2)).toNatClampNeg x2)) (upd (mu_eso z4.2) ((mu_ent z4.2)).toNatClampNeg x3))) := hD
        refine lv_iconst (v := zI 0) hx hb dX3_change_90 (by decide) ?_
        cases hf
        exact vz_iret X hP hD hS dX3_change_91
      · have hf := ift c11 hf
        refine lv_aload_n hx hb dX3_change_31 rfl (lv_at hl 1 rfl) ?_
        obtain ⟨z16, hz17, hf⟩ := bd hf
        refine vz_call (rest := []) X (kX3_store hz17) (cwV 0 hts gX3_change_X3_store rfl rfl rfl (by decide +kernel) ⟨Nat.le_of_ble_eq_true rfl, Nat.le_of_ble_eq_true rfl⟩) 0 3 rfl rfl rfl hl.1 rfl (Nat.le_of_ble_eq_true rfl) dX3_change_32 ⟨Nat.zero_le _, Nat.zero_le _⟩ hP hD hS (fun H locs hP hD hS => ?_)
        refine lv_if_ne (tgt := 44) hx hb dX3_change_35 (by decide) (fun c18 => ?_) (fun c18 => ?_)
        · have hf := iff_ c18 hf
          refine lv_iload hx hb dX3_change_44 (lv_at hl 0 rfl) ?_
          refine lv_iconst (v := zI (-1)) hx hb dX3_change_46 (by decide) ?_
          refine lv_icmp_ne (tgt := 66) hx hb dX3_change_47 (by decide) (fun c19 => absurd c6 c19) (fun c19 => ?_)
          refine lv_aload_n hx hb dX3_change_50 rfl (lv_at hl 1 rfl) ?_
          refine va_get (D := D) (ci := 3) (v := .int (mu_ent z16.2)) (C := RX3) (T := TX3) (N := 16) hx hb hts in_X3_change_X3 hown hK hP 0 rfl rfl 12 (by decide) (hts _ (List.mem_of_getElem? (i := 1) rfl)) (fun _ h9 => h9) rfl dX3_change_51 ?_
          refine lv_istore (lv' := [(4, .int (mu_ent z16.2)), (0, .ref (a 0)), (1, .int x1), (2, .int x2), (3, .int x3)]) hx hb dX3_change_54 hl (by decide) rfl (fun ls hl => ?_)
          refine lv_aload_n hx hb dX3_change_56 rfl (lv_at hl 1 rfl) ?_
          refine lv_dup hx hb dX3_change_57 rfl ?_
          refine va_get (D := D) (ci := 3) (v := .int (mu_ent z16.2)) (C := RX3) (T := TX3) (N := 16) hx hb hts in_X3_change_X3 hown hK hP 0 rfl rfl 12 (by decide) (hts _ (List.mem_of_getElem? (i := 1) rfl)) (fun _ h9 => h9) rfl dX3_change_58 ?_
          refine lv_iconst (v := zI 1) hx hb dX3_change_61 (by decide) ?_
          refine lv_iadd hx hb dX3_change_62 ?_
          refine va_put (D := D) (ci := 3) (v := .int ((mu_ent z16.2) + (zI 1))) (ty := .int) (C := RX3) (T := TX3) (N := 16) hx hb hts in_X3_change_X3 tyX3 tyX3_ok nmX3 hown hK hP hD hS 0 rfl rfl 12 (by decide) (hts _ (List.mem_of_getElem? (i := 1) rfl)) (fun _ h9 => h9) rfl (by decide +kernel) rfl rfl (Nat.le_of_ble_eq_true rfl) dX3_change_63 (fun H locs hP hD hS => ?_)
          have hP : va_P D vwCl (MW a n cA (mu_s_ent z16.2 ((mu_ent z16.2) + (zI 1)))) H := hP
          have hD : va_D A (MW a n cA (mu_s_ent z16.2 ((mu_ent z16.2) + (zI 1)))) := hD
          refine lv_aload_n hx hb dX3_change_66 rfl (lv_at hl 1 rfl) ?_
          refine va_get (D := D) (ci := 3) (v := .ref (a 6)) (C := RX3) (T := TX3) (N := 16) hx hb hts in_X3_change_X3 hown hK hP 0 rfl rfl 13 (by decide) (hts _ (List.mem_of_getElem? (i := 2) rfl)) (fun _ h9 => h9) rfl dX3_change_67 ?_
          refine lv_iload hx hb dX3_change_70 (lv_at hl 0 rfl) ?_
          refine lv_iload_n hx hb dX3_change_72 rfl (lv_at hl 2 rfl) ?_
          obtain ⟨g20, hf⟩ := vgs hf
          refine va_iast hx hb hK hP hD hS 6 5 rfl rfl g20 dX3_change_73 (fun H locs hP hD hS => ?_)
          have hP : va_P D vwCl (MW a n cA (mu_s_ese (mu_s_ent z16.2 ((mu_ent z16.2) + (zI 1))) (upd (mu_ese z16.2) ((mu_ent z16.2)).toNatClampNeg x1))) H := hP
          have hD : va_D A (MW a n cA (mu_s_ese (mu_s_ent z16.2 ((mu_ent z16.2) + (zI 1))) (upd (mu_ese z16.2) ((mu_ent z16.2)).toNatClampNeg x1))) := hD
          refine lv_aload_n hx hb dX3_change_74 rfl (lv_at hl 1 rfl) ?_
          refine va_get (D := D) (ci := 3) (v := .ref (a 7)) (C := RX3) (T := TX3) (N := 16) hx hb hts in_X3_change_X3 hown hK hP 0 rfl rfl 14 (by decide) (hts _ (List.mem_of_getElem? (i := 3) rfl)) (fun _ h9 => h9) rfl dX3_change_75 ?_
          refine lv_iload hx hb dX3_change_78 (lv_at hl 0 rfl) ?_
          refine lv_iload_n hx hb dX3_change_80 rfl (lv_at hl 3 rfl) ?_
          obtain ⟨g21, hf⟩ := vgs hf
          refine va_iast hx hb hK hP hD hS 7 6 rfl rfl g21 dX3_change_81 (fun H locs hP hD hS => ?_)
          have hP : va_P D vwCl (MW a n cA (mu_s_eva (mu_s_ese (mu_s_ent z16.2 ((mu_ent z16.2) + (zI 1))) (upd (mu_ese z16.2) ((mu_ent z16.2)).toNatClampNeg x1)) (upd (mu_eva z16.2) ((mu_ent z16.2)).toNatClampNeg x2))) H := hP
          have hD : va_D A (MW a n cA (mu_s_eva (mu_s_ese (mu_s_ent z16.2 ((mu_ent z16.2) + (zI 1))) (upd (mu_ese z16.2) ((mu_ent z16.2)).toNatClampNeg x1)) (upd (mu_eva z16.2) ((mu_ent z16.2)).toNatClampNeg x2))) := hD
          refine lv_aload_n hx hb dX3_change_82 rfl (lv_at hl 1 rfl) ?_
          refine va_get (D := D) (ci := 3) (v := .ref (a 8)) (C := RX3) (T := TX3) (N := 16) hx hb hts in_X3_change_X3 hown hK hP 0 rfl rfl 15 (by decide) (hts _ (List.mem_of_getElem? (i := 4) rfl)) (fun _ h9 => h9) rfl dX3_change_83 ?_
          refine lv_iload hx hb dX3_change_86 (lv_at hl 0 rfl) ?_
          refine lv_iload_n hx hb dX3_change_88 rfl (lv_at hl 4 rfl) ?_
          obtain ⟨g22, hf⟩ := vgs hf
          refine va_iast hx hb hK hP hD hS 8 7 rfl rfl g22 dX3_change_89 (fun H locs hP hD hS => ?_)
          have hP : va_P D vwCl (MW a n cA (mu_s_eso (mu_s_eva (mu_s_ese (mu_s_ent z16.2 ((mu_ent z16.2) + (zI 1))) (upd (mu_ese z16.2) ((mu_ent z16.2)).toNatClampNeg x1)) (upd (mu_eva z16.2) ((mu_ent z16.2)).toNatClampNeg x2)) (upd (mu_eso z16.2) ((mu_ent z16.2)).toNatClampNeg x3))) H := hP
          have hD : va_D A (MW a n cA (mu_s_eso (mu_s_eva (mu_s_ese (mu_s_ent z16.2 ((mu_ent z16.2) + (zI 1))) (upd (mu_ese z16.2) ((mu_ent z16.2)).toNatClampNeg x1)) (upd (mu_eva z16.2) ((mu_ent z16.2)).toNatClampNeg x2)) (upd (mu_eso z16.2) ((mu_ent z16.2)).toNatClampNeg x3))) := hD
          refine lv_iconst (v := zI 0) hx hb dX3_change_90 (by decide) ?_
          cases hf
          exact vz_iret X hP hD hS dX3_change_91
        · have hf := ift c18 hf
          refine lv_aload_n hx hb dX3_change_38 rfl (lv_at hl 1 rfl) ?_
          obtain ⟨z23, hz24, hf⟩ := bd hf
          refine vz_callv (rest := []) X (kX3_cut hz24) (cwV 0 hts gX3_change_X3_cut rfl rfl rfl (by decide +kernel) ⟨Nat.le_of_ble_eq_true rfl, Nat.le_of_ble_eq_true rfl⟩) 0 3 rfl rfl rfl hl.1 rfl (Nat.le_of_ble_eq_true rfl) dX3_change_39 ⟨Nat.zero_le _, Nat.zero_le _⟩ hP hD hS (fun H locs hP hD hS => ?_)
          refine lv_iconst (v := zI 1) hx hb dX3_change_42 (by decide) ?_
          cases hf
          exact vz_iret X hP hD hS dX3_change_43
  · have hf := ift c3 hf
    refine lv_iconst (v := zI (-1)) hx hb dX3_change_8 (by decide) ?_
    cases hf
    exact vz_iret X hP hD hS dX3_change_9
end
theorem kX3_change {l : Launch} {D : va_G} {a n : Nat → Nat} {cA : Nat → ClassId} {K : Nat} {x1 x2 x3 : Int32} {u : MU} {r : Int32} {u2 : MU} (h : fX3_change n K x1 x2 x3 u = some (r, u2)) : vzC l D (MT cA) (MW a n cA) yX3_change wsX3_change rmX3_change [.ref (a 0), .int x1, .int x2, .int x3] u r u2 := vzC.of (by decide) rfl (Nat.le_of_ble_eq_true rfl) (fun p e s m below meth c A ls X hP hD hl => lbX3_change_e X x1 x2 x3 u s.heap [] ls r u2 h hP hD va_S.rf hl)
abbrev rmX3_write : Room := { frames := 7, cells := 0, slots := 0, locals := 162 }
theorem in_X3_write_X3 : ∀ w ∈ u_ws RX3 TX3 16, w ∈ wsX3_write := fun _ h => List.mem_cons_of_mem _ (List.mem_append_right _ h)
def fX3_write (n : Nat → Nat) (K : Nat) (x1 x2 : Int32) (u : MU) : Option (Int32 × MU) := (fX3_change n K x1 x2 (zI 1) u).bind fun z1 => (some (z1.1, z1.2))
section
variable {p : Program} {l : Launch} {e : Env} {s : State} {m : MethodId} {args : Array Value} {below : List Frame} {meth : Method} {c : Code} {D : va_G} {a n : Nat → Nat} {cA : Nat → ClassId} {A : Nat → Prop}
set_option maxHeartbeats 4000000 in
set_option maxRecDepth 100000 in
theorem lbX3_write_e {K : Nat} (X : vzX D (MT cA) A wsX3_write cX3_write 3 (some .int) RX3 p s m args meth c) : ∀ (x1 x2 : Int32) (u : MU) (H : Heap) (locs : List Loc) (ls : Array Slot) (r : Int32) (u2 : MU), fX3_write n K x1 x2 u = some (r, u2) → va_P D vwCl (MW a n cA u) H → va_D A (MW a n cA u) → va_S A s.heap H locs → lv_has ls 3 [(0, .ref (a 0)), (1, .int x1), (2, .int x2)] → W p l e (headSpec wsX3_write rmX3_write).room s m args below meth c H locs 0 0 (MQ below (vzQ D (MT cA) (MW a n cA) A r u2) args s 0 0 A) (F0 m 0 ls []) := by
  obtain ⟨hx, hb, hr, hml, hown, hts, hlk, hN, hK, hA⟩ := id X
  intro x1 x2 u H locs ls r u2 hf hP hD hS hl
  unfold fX3_write at hf
  refine lv_aload_n hx hb dX3_write_0 rfl (lv_at hl 0 rfl) ?_
  refine lv_iload_n hx hb dX3_write_1 rfl (lv_at hl 1 rfl) ?_
  refine lv_iload_n hx hb dX3_write_2 rfl (lv_at hl 2 rfl) ?_
  refine lv_iconst (v := zI 1) hx hb dX3_write_3 (by decide) ?_
  obtain ⟨z1, hz2, hf⟩ := bd hf
  refine vz_call (rest := []) X (kX3_change hz2) (cwV 3 hts gX3_write_X3_change rfl rfl rfl (by decide +kernel) ⟨Nat.le_of_ble_eq_true rfl, Nat.le_of_ble_eq_true rfl⟩) 0 3 rfl rfl rfl hl.1 rfl (Nat.le_of_ble_eq_true rfl) dX3_write_4 ⟨Nat.zero_le _, Nat.zero_le _⟩ hP hD hS (fun H locs hP hD hS => ?_)
  cases hf
  exact vz_iret X hP hD hS dX3_write_7
end
theorem kX3_write {l : Launch} {D : va_G} {a n : Nat → Nat} {cA : Nat → ClassId} {K : Nat} {x1 x2 : Int32} {u : MU} {r : Int32} {u2 : MU} (h : fX3_write n K x1 x2 u = some (r, u2)) : vzC l D (MT cA) (MW a n cA) yX3_write wsX3_write rmX3_write [.ref (a 0), .int x1, .int x2] u r u2 := vzC.of (by decide) rfl (Nat.le_of_ble_eq_true rfl) (fun p e s m below meth c A ls X hP hD hl => lbX3_write_e X x1 x2 u s.heap [] ls r u2 h hP hD va_S.rf hl)
abbrev rmX3_trim : Room := { frames := 7, cells := 0, slots := 0, locals := 162 }
theorem in_X3_trim_X3 : ∀ w ∈ u_ws RX3 TX3 16, w ∈ wsX3_trim := fun _ h => List.mem_cons_of_mem _ (List.mem_append_right _ h)
def fX3_trim (n : Nat → Nat) (K : Nat) (x1 : Int32) (u : MU) : Option (Int32 × MU) := (fX3_change n K x1 (zI 0) (zI 2) u).bind fun z1 => (some (z1.1, z1.2))
section
variable {p : Program} {l : Launch} {e : Env} {s : State} {m : MethodId} {args : Array Value} {below : List Frame} {meth : Method} {c : Code} {D : va_G} {a n : Nat → Nat} {cA : Nat → ClassId} {A : Nat → Prop}
set_option maxHeartbeats 4000000 in
set_option maxRecDepth 100000 in
theorem lbX3_trim_e {K : Nat} (X : vzX D (MT cA) A wsX3_trim cX3_trim 2 (some .int) RX3 p s m args meth c) : ∀ (x1 : Int32) (u : MU) (H : Heap) (locs : List Loc) (ls : Array Slot) (r : Int32) (u2 : MU), fX3_trim n K x1 u = some (r, u2) → va_P D vwCl (MW a n cA u) H → va_D A (MW a n cA u) → va_S A s.heap H locs → lv_has ls 2 [(0, .ref (a 0)), (1, .int x1)] → W p l e (headSpec wsX3_trim rmX3_trim).room s m args below meth c H locs 0 0 (MQ below (vzQ D (MT cA) (MW a n cA) A r u2) args s 0 0 A) (F0 m 0 ls []) := by
  obtain ⟨hx, hb, hr, hml, hown, hts, hlk, hN, hK, hA⟩ := id X
  intro x1 u H locs ls r u2 hf hP hD hS hl
  unfold fX3_trim at hf
  refine lv_aload_n hx hb dX3_trim_0 rfl (lv_at hl 0 rfl) ?_
  refine lv_iload_n hx hb dX3_trim_1 rfl (lv_at hl 1 rfl) ?_
  refine lv_iconst (v := zI 0) hx hb dX3_trim_2 (by decide) ?_
  refine lv_iconst (v := zI 2) hx hb dX3_trim_3 (by decide) ?_
  obtain ⟨z1, hz2, hf⟩ := bd hf
  refine vz_call (rest := []) X (kX3_change hz2) (cwV 3 hts gX3_trim_X3_change rfl rfl rfl (by decide +kernel) ⟨Nat.le_of_ble_eq_true rfl, Nat.le_of_ble_eq_true rfl⟩) 0 3 rfl rfl rfl hl.1 rfl (Nat.le_of_ble_eq_true rfl) dX3_trim_4 ⟨Nat.zero_le _, Nat.zero_le _⟩ hP hD hS (fun H locs hP hD hS => ?_)
  cases hf
  exact vz_iret X hP hD hS dX3_trim_7
end
theorem kX3_trim {l : Launch} {D : va_G} {a n : Nat → Nat} {cA : Nat → ClassId} {K : Nat} {x1 : Int32} {u : MU} {r : Int32} {u2 : MU} (h : fX3_trim n K x1 u = some (r, u2)) : vzC l D (MT cA) (MW a n cA) yX3_trim wsX3_trim rmX3_trim [.ref (a 0), .int x1] u r u2 := vzC.of (by decide) rfl (Nat.le_of_ble_eq_true rfl) (fun p e s m below meth c A ls X hP hD hl => lbX3_trim_e X x1 u s.heap [] ls r u2 h hP hD va_S.rf hl)
abbrev rmX3_flush : Room := { frames := 6, cells := 0, slots := 0, locals := 138 }
theorem in_X3_flush_X3 : ∀ w ∈ u_ws RX3 TX3 16, w ∈ wsX3_flush := fun _ h => List.mem_cons_of_mem _ (List.mem_append_right _ h)
def fX3_flush_0 (n : Nat → Nat) (K : Nat) : Nat → MU → Option (Int32 × MU)
  | 0, _ => none
  | N + 1, u => if (mu_ent u) ≤ 0 then (some (zI 0, u)) else ((fX3_store n K u).bind fun z2 => (if z2.1 = 0 then ((fX3_cut n K z2.2).bind fun z5 => (some (zI 1, z5))) else (fX3_flush_0 n K N z2.2)))
def fX3_flush (n : Nat → Nat) (K : Nat) (u : MU) : Option (Int32 × MU) := fX3_flush_0 n K K u
section
variable {p : Program} {l : Launch} {e : Env} {s : State} {m : MethodId} {args : Array Value} {below : List Frame} {meth : Method} {c : Code} {D : va_G} {a n : Nat → Nat} {cA : Nat → ClassId} {A : Nat → Prop}
set_option maxHeartbeats 4000000 in
set_option maxRecDepth 100000 in
theorem lbX3_flush_0 {K : Nat} (X : vzX D (MT cA) A wsX3_flush cX3_flush 1 (some .int) RX3 p s m args meth c) : ∀ (N : Nat) (u : MU) (H : Heap) (locs : List Loc) (ls : Array Slot) (r : Int32) (u2 : MU), fX3_flush_0 n K N u = some (r, u2) → va_P D vwCl (MW a n cA u) H → va_D A (MW a n cA u) → va_S A s.heap H locs → lv_has ls 1 [(0, .ref (a 0))] → W p l e (headSpec wsX3_flush rmX3_flush).room s m args below meth c H locs 0 0 (MQ below (vzQ D (MT cA) (MW a n cA) A r u2) args s 0 0 A) (F0 m 0 ls []) := by
  obtain ⟨hx, hb, hr, hml, hown, hts, hlk, hN, hK, hA⟩ := id X
  intro N
  induction N with
  | zero =>
    intro u H locs ls r u2 hf
    cases hf
  | succ N ih =>
    intro u H locs ls r u2 hf hP hD hS hl
    rw [fX3_flush_0] at hf
    refine lv_aload_n hx hb dX3_flush_0 rfl (lv_at hl 0 rfl) ?_
    refine va_get (D := D) (ci := 3) (v := .int (mu_ent u)) (C := RX3) (T := TX3) (N := 16) hx hb hts in_X3_flush_X3 hown hK hP 0 rfl rfl 12 (by decide) (hts _ (List.mem_of_getElem? (i := 1) rfl)) (fun _ h9 => h9) rfl dX3_flush_1 ?_
    refine lv_if_le (tgt := 20) hx hb dX3_flush_4 (by decide) (fun c1 => ?_) (fun c1 => ?_)
    · have hf := ift c1 hf
      refine lv_iconst (v := zI 0) hx hb dX3_flush_20 (by decide) ?_
      cases hf
      exact vz_iret X hP hD hS dX3_flush_21
    · have hf := iff_ c1 hf
      refine lv_aload_n hx hb dX3_flush_7 rfl (lv_at hl 0 rfl) ?_
      obtain ⟨z2, hz3, hf⟩ := bd hf
      refine vz_call (rest := []) X (kX3_store hz3) (cwV 0 hts gX3_flush_X3_store rfl rfl rfl (by decide +kernel) ⟨Nat.le_of_ble_eq_true rfl, Nat.le_of_ble_eq_true rfl⟩) 0 3 rfl rfl rfl hl.1 rfl (Nat.le_of_ble_eq_true rfl) dX3_flush_8 ⟨Nat.zero_le _, Nat.zero_le _⟩ hP hD hS (fun H locs hP hD hS => ?_)
      refine lv_if_ne (tgt := 0) hx hb dX3_flush_11 (by decide) (fun c4 => ?_) (fun c4 => ?_)
      · have hf := iff_ c4 hf
        exact ih z2.2 _ _ _ _ _ hf hP hD hS (lv_sub hl [0] rfl)
      · have hf := ift c4 hf
        refine lv_aload_n hx hb dX3_flush_14 rfl (lv_at hl 0 rfl) ?_
        obtain ⟨z5, hz6, hf⟩ := bd hf
        refine vz_callv (rest := []) X (kX3_cut hz6) (cwV 0 hts gX3_flush_X3_cut rfl rfl rfl (by decide +kernel) ⟨Nat.le_of_ble_eq_true rfl, Nat.le_of_ble_eq_true rfl⟩) 0 3 rfl rfl rfl hl.1 rfl (Nat.le_of_ble_eq_true rfl) dX3_flush_15 ⟨Nat.zero_le _, Nat.zero_le _⟩ hP hD hS (fun H locs hP hD hS => ?_)
        refine lv_iconst (v := zI 1) hx hb dX3_flush_18 (by decide) ?_
        cases hf
        exact vz_iret X hP hD hS dX3_flush_19
set_option maxHeartbeats 4000000 in
set_option maxRecDepth 100000 in
theorem lbX3_flush_e {K : Nat} (X : vzX D (MT cA) A wsX3_flush cX3_flush 1 (some .int) RX3 p s m args meth c) : ∀ (u : MU) (H : Heap) (locs : List Loc) (ls : Array Slot) (r : Int32) (u2 : MU), fX3_flush n K u = some (r, u2) → va_P D vwCl (MW a n cA u) H → va_D A (MW a n cA u) → va_S A s.heap H locs → lv_has ls 1 [(0, .ref (a 0))] → W p l e (headSpec wsX3_flush rmX3_flush).room s m args below meth c H locs 0 0 (MQ below (vzQ D (MT cA) (MW a n cA) A r u2) args s 0 0 A) (F0 m 0 ls []) := by
  obtain ⟨hx, hb, hr, hml, hown, hts, hlk, hN, hK, hA⟩ := id X
  intro u H locs ls r u2 hf hP hD hS hl
  unfold fX3_flush at hf
  exact lbX3_flush_0 X K u _ _ _ _ _ hf hP hD hS (lv_sub hl [0] rfl)
end
theorem kX3_flush {l : Launch} {D : va_G} {a n : Nat → Nat} {cA : Nat → ClassId} {K : Nat} {u : MU} {r : Int32} {u2 : MU} (h : fX3_flush n K u = some (r, u2)) : vzC l D (MT cA) (MW a n cA) yX3_flush wsX3_flush rmX3_flush [.ref (a 0)] u r u2 := vzC.of (by decide) rfl (Nat.le_of_ble_eq_true rfl) (fun p e s m below meth c A ls X hP hD hl => lbX3_flush_e X u s.heap [] ls r u2 h hP hD va_S.rf hl)
abbrev rmX3_fuse : Room := { frames := 0, cells := 0, slots := 0, locals := 0 }
theorem in_X3_fuse_X3 : ∀ w ∈ u_ws RX3 TX3 16, w ∈ wsX3_fuse := fun _ h => List.mem_cons_of_mem _ (List.mem_append_right _ h)
def fX3_fuse (n : Nat → Nat) (K : Nat) (x1 : Int32) (u : MU) : Option (Int32 × MU) := if x1 < 0 then (some (zI 0, u)) else (if x1 ≤ (zI 1000) then (some (zI 1, mu_s_fus u x1)) else (some (zI 0, u)))
section
variable {p : Program} {l : Launch} {e : Env} {s : State} {m : MethodId} {args : Array Value} {below : List Frame} {meth : Method} {c : Code} {D : va_G} {a n : Nat → Nat} {cA : Nat → ClassId} {A : Nat → Prop}
set_option maxHeartbeats 4000000 in
set_option maxRecDepth 100000 in
theorem lbX3_fuse_e {K : Nat} (X : vzX D (MT cA) A wsX3_fuse cX3_fuse 2 (some .boolean) RX3 p s m args meth c) : ∀ (x1 : Int32) (u : MU) (H : Heap) (locs : List Loc) (ls : Array Slot) (r : Int32) (u2 : MU), fX3_fuse n K x1 u = some (r, u2) → va_P D vwCl (MW a n cA u) H → va_D A (MW a n cA u) → va_S A s.heap H locs → lv_has ls 2 [(0, .ref (a 0)), (1, .int x1)] → W p l e (headSpec wsX3_fuse rmX3_fuse).room s m args below meth c H locs 0 0 (MQ below (vzQ D (MT cA) (MW a n cA) A r u2) args s 0 0 A) (F0 m 0 ls []) := by
  obtain ⟨hx, hb, hr, hml, hown, hts, hlk, hN, hK, hA⟩ := id X
  intro x1 u H locs ls r u2 hf hP hD hS hl
  unfold fX3_fuse at hf
  refine lv_iload_n hx hb dX3_fuse_0 rfl (lv_at hl 1 rfl) ?_
  refine lv_if_lt (tgt := 11) hx hb dX3_fuse_1 (by decide) (fun c1 => ?_) (fun c1 => ?_)
  · have hf := ift c1 hf
    refine lv_iconst (v := zI 0) hx hb dX3_fuse_11 (by decide) ?_
    cases hf
    exact vz_zret X rfl hP hD hS dX3_fuse_12
  · have hf := iff_ c1 hf
    refine lv_iload_n hx hb dX3_fuse_4 rfl (lv_at hl 1 rfl) ?_
    refine lv_sipush (v := zI 1000) hx hb dX3_fuse_5 (by decide) ?_
    refine lv_icmp_le (tgt := 13) hx hb dX3_fuse_8 (by decide) (fun c2 => ?_) (fun c2 => ?_)
    · have hf := ift c2 hf
      refine lv_aload_n hx hb dX3_fuse_13 rfl (lv_at hl 0 rfl) ?_
      refine lv_iload_n hx hb dX3_fuse_14 rfl (lv_at hl 1 rfl) ?_
      refine va_put (D := D) (ci := 3) (v := .int x1) (ty := .int) (C := RX3) (T := TX3) (N := 16) hx hb hts in_X3_fuse_X3 tyX3 tyX3_ok nmX3 hown hK hP hD hS 0 rfl rfl 10 (by decide) (hts _ (List.mem_of_getElem? (i := 1) rfl)) (fun _ h9 => h9) rfl (by decide +kernel) rfl rfl (Nat.le_of_ble_eq_true rfl) dX3_fuse_15 (fun H locs hP hD hS => ?_)
      have hP : va_P D vwCl (MW a n cA (mu_s_fus u x1)) H := hP
      have hD : va_D A (MW a n cA (mu_s_fus u x1)) := hD
      refine lv_iconst (v := zI 1) hx hb dX3_fuse_18 (by decide) ?_
      cases hf
      exact vz_zret X rfl hP hD hS dX3_fuse_19
    · have hf := iff_ c2 hf
      refine lv_iconst (v := zI 0) hx hb dX3_fuse_11 (by decide) ?_
      cases hf
      exact vz_zret X rfl hP hD hS dX3_fuse_12
end
theorem kX3_fuse {l : Launch} {D : va_G} {a n : Nat → Nat} {cA : Nat → ClassId} {K : Nat} {x1 : Int32} {u : MU} {r : Int32} {u2 : MU} (h : fX3_fuse n K x1 u = some (r, u2)) : vzC l D (MT cA) (MW a n cA) yX3_fuse wsX3_fuse rmX3_fuse [.ref (a 0), .int x1] u r u2 := vzC.of (by decide) rfl (Nat.le_of_ble_eq_true rfl) (fun p e s m below meth c A ls X hP hD hl => lbX3_fuse_e X x1 u s.heap [] ls r u2 h hP hD va_S.rf hl)
