abbrev rmX3_room : Room := { frames := 4, cells := 0, slots := 0, locals := 93 }
theorem in_X3_room_X3 : ∀ w ∈ u_ws RX3 TX3 16, w ∈ wsX3_room := fun _ h => List.mem_cons_of_mem _ (List.mem_append_right _ h)
def fX3_room_4 (n : Nat → Nat) (K : Nat) : Nat → Int32 → Int32 → MU → Option (Int32 × MU)
  | 0, _, _, _ => none
  | N + 1, x1, x2, u => if (zI 1000) ≤ x2 then (some (zI 1, u)) else (if (mu_opn u) = (zI (-1)) then ((fX3_freeBlocks n K u).bind fun z3 => (if (zI 2) ≤ z3.1 then ((fX3_pick n K (zI 0) (zI 0) z3.2).bind fun z6 => (fX3_room_4 n K N x1 (x2 + (zI 1)) (mu_s_opn z6.2 z6.1))) else ((fX3_pick n K (zI 0) (zI 0) z3.2).bind fun z9 => (if x1 = 0 then ((fX3_uneven n K (mu_s_opn z9.2 z9.1)).bind fun z20 => (if z20.1 = 0 then ((fX3_pick n K (zI 4) (zI 1) z20.2).bind fun z26 => ((fX3_collect n K z26.1 z26.2).bind fun z28 => (if z28.1 = 0 then (some (zI 0, z28.2)) else (fX3_room_4 n K N (zI 0) (x2 + (zI 1)) z28.2)))) else ((fX3_pick n K (zI 4) (zI 0) z20.2).bind fun z34 => ((fX3_collect n K z34.1 z34.2).bind fun z36 => (if z36.1 = 0 then (some (zI 0, z36.2)) else (fX3_room_4 n K N (zI 1) (x2 + (zI 1)) z36.2)))))) else ((fX3_pick n K (zI 4) (zI 1) (mu_s_opn z9.2 z9.1)).bind fun z15 => ((fX3_collect n K z15.1 z15.2).bind fun z17 => (if z17.1 = 0 then (some (zI 0, z17.2)) else (fX3_room_4 n K N (zI 1) (x2 + (zI 1)) z17.2)))))))) else ((fX3_programmed n K (mu_opn u) u).bind fun z39 => (if z39.1 = (zI 4) then ((fX3_freeBlocks n K z39.2).bind fun z42 => (if (zI 2) ≤ z42.1 then ((fX3_pick n K (zI 0) (zI 0) z42.2).bind fun z45 => (fX3_room_4 n K N x1 (x2 + (zI 1)) (mu_s_opn z45.2 z45.1))) else ((fX3_pick n K (zI 0) (zI 0) z42.2).bind fun z48 => (if x1 = 0 then ((fX3_uneven n K (mu_s_opn z48.2 z48.1)).bind fun z59 => (if z59.1 = 0 then ((fX3_pick n K (zI 4) (zI 1) z59.2).bind fun z65 => ((fX3_collect n K z65.1 z65.2).bind fun z67 => (if z67.1 = 0 then (some (zI 0, z67.2)) else (fX3_room_4 n K N (zI 0) (x2 + (zI 1)) z67.2)))) else ((fX3_pick n K (zI 4) (zI 0) z59.2).bind fun z73 => ((fX3_collect n K z73.1 z73.2).bind fun z75 => (if z75.1 = 0 then (some (zI 0, z75.2)) else (fX3_room_4 n K N (zI 1) (x2 + (zI 1)) z75.2)))))) else ((fX3_pick n K (zI 4) (zI 1) (mu_s_opn z48.2 z48.1)).bind fun z54 => ((fX3_collect n K z54.1 z54.2).bind fun z56 => (if z56.1 = 0 then (some (zI 0, z56.2)) else (fX3_room_4 n K N (zI 1) (x2 + (zI 1)) z56.2)))))))) else (some (zI 1, z39.2)))))
def fX3_room (n : Nat → Nat) (K : Nat) (u : MU) : Option (Int32 × MU) := fX3_room_4 n K K (zI 0) (zI 0) u
section
variable {p : Program} {l : Launch} {e : Env} {s : State} {m : MethodId} {args : Array Value} {below : List Frame} {meth : Method} {c : Code} {D : va_G} {a n : Nat → Nat} {cA : Nat → ClassId} {A : Nat → Prop}
set_option maxHeartbeats 4000000 in
set_option maxRecDepth 100000 in
theorem lbX3_room_4 {K : Nat} (X : vzX D (MT cA) A wsX3_room cX3_room 5 (some .boolean) RX3 p s m args meth c) : ∀ (N : Nat) (x1 x2 : Int32) (u : MU) (H : Heap) (locs : List Loc) (ls : Array Slot) (r : Int32) (u2 : MU), fX3_room_4 n K N x1 x2 u = some (r, u2) → va_P D vwCl (MW a n cA u) H → va_D A (MW a n cA u) → va_S A s.heap H locs → lv_has ls 5 [(0, .ref (a 0)), (1, .int x1), (2, .int x2)] → W p l e (headSpec wsX3_room rmX3_room).room s m args below meth c H locs 0 0 (MQ below (vzQ D (MT cA) (MW a n cA) A r u2) args s 0 0 A) (F0 m 4 ls []) := by
  obtain ⟨hx, hb, hr, hml, hown, hts, hlk, hN, hK, hA⟩ := id X
  intro N
  induction N with
  | zero =>
    intro x1 x2 u H locs ls r u2 hf
    cases hf
  | succ N ih =>
    intro x1 x2 u H locs ls r u2 hf hP hD hS hl
    rw [fX3_room_4] at hf
    refine lv_iload_n hx hb dX3_room_4 rfl (lv_at hl 2 rfl) ?_
    refine lv_sipush (v := zI 1000) hx hb dX3_room_5 (by decide) ?_
    refine lv_icmp_ge (tgt := 122) hx hb dX3_room_8 (by decide) (fun c1 => ?_) (fun c1 => ?_)
    · have hf := ift c1 hf
      refine lv_iconst (v := zI 1) hx hb dX3_room_122 (by decide) ?_
      cases hf
      exact vz_zret X rfl hP hD hS dX3_room_123
    · have hf := iff_ c1 hf
      refine lv_aload_n hx hb dX3_room_11 rfl (lv_at hl 0 rfl) ?_
      refine va_get (D := D) (ci := 3) (v := .int (mu_opn u)) (C := RX3) (T := TX3) (N := 16) hx hb hts in_X3_room_X3 hown hK hP 0 rfl rfl 8 (by decide) (hts _ (List.mem_of_getElem? (i := 1) rfl)) (fun _ h9 => h9) rfl dX3_room_12 ?_
      refine lv_iconst (v := zI (-1)) hx hb dX3_room_15 (by decide) ?_
      refine lv_icmp_eq (tgt := 31) hx hb dX3_room_16 (by decide) (fun c2 => ?_) (fun c2 => ?_)
      · have hf := ift c2 hf
        refine lv_aload_n hx hb dX3_room_31 rfl (lv_at hl 0 rfl) ?_
        obtain ⟨z3, hz4, hf⟩ := bd hf
        refine vz_call (rest := []) X (kX3_freeBlocks hz4) (cwV 0 hts gX3_room_X3_freeBlocks rfl rfl rfl (by decide +kernel) ⟨Nat.le_of_ble_eq_true rfl, Nat.le_of_ble_eq_true rfl⟩) 0 3 rfl rfl rfl hl.1 rfl (Nat.le_of_ble_eq_true rfl) dX3_room_32 ⟨Nat.zero_le _, Nat.zero_le _⟩ hP hD hS (fun H locs hP hD hS => ?_)
        refine lv_iconst (v := zI 2) hx hb dX3_room_35 (by decide) ?_
        refine lv_icmp_ge (tgt := 43) hx hb dX3_room_36 (by decide) (fun c5 => ?_) (fun c5 => ?_)
        · have hf := ift c5 hf
          refine lv_iconst (v := zI 0) hx hb dX3_room_43 (by decide) ?_
          refine lv_istore_n (lv' := [(3, .int (zI 0)), (0, .ref (a 0)), (1, .int x1), (2, .int x2)]) hx hb dX3_room_44 rfl hl (by decide) rfl (fun ls hl => ?_)
          refine lv_aload_n hx hb dX3_room_45 rfl (lv_at hl 1 rfl) ?_
          refine lv_aload_n hx hb dX3_room_46 rfl (lv_at hl 1 rfl) ?_
          refine lv_iconst (v := zI 0) hx hb dX3_room_47 (by decide) ?_
          refine lv_iconst (v := zI 0) hx hb dX3_room_48 (by decide) ?_
          obtain ⟨z6, hz7, hf⟩ := bd hf
          refine vz_call (rest := [.ref (a 0)]) X (kX3_pick hz7) (cwV 2 hts gX3_room_X3_pick rfl rfl rfl (by decide +kernel) ⟨Nat.le_of_ble_eq_true rfl, Nat.le_of_ble_eq_true rfl⟩) 0 3 rfl rfl rfl hl.1 rfl (Nat.le_of_ble_eq_true rfl) dX3_room_49 ⟨Nat.zero_le _, Nat.zero_le _⟩ hP hD hS (fun H locs hP hD hS => ?_)
          refine va_put (D := D) (ci := 3) (v := .int z6.1) (ty := .int) (C := RX3) (T := TX3) (N := 16) hx hb hts in_X3_room_X3 tyX3 tyX3_ok nmX3 hown hK hP hD hS 0 rfl rfl 8 (by decide) (hts _ (List.mem_of_getElem? (i := 1) rfl)) (fun _ h9 => h9) rfl (by decide +kernel) rfl rfl (Nat.le_of_ble_eq_true rfl) dX3_room_52 (fun H locs hP hD hS => ?_)
          have hP : va_P D vwCl (MW a n cA (mu_s_opn z6.2 z6.1)) H := hP
          have hD : va_D A (MW a n cA (mu_s_opn z6.2 z6.1)) := hD
          refine lv_iload_n hx hb dX3_room_55 rfl (lv_at hl 0 rfl) ?_
          refine lv_if_eq (tgt := 116) hx hb dX3_room_56 (by decide) (fun c8 => ?_) (fun c8 => absurd (by decide) c8)
          refine lv_iinc (v := x2 + (zI 1)) (lv' := [(2, .int (x2 + (zI 1))), (3, .int (zI 0)), (0, .ref (a 0)), (1, .int x1)]) hx hb dX3_room_116 hl (k := 3) rfl rfl (by decide) rfl (fun ls hl => ?_)
          refine lv_goto (tgt := 4) hx hb dX3_room_119 (by decide) ?_
          exact ih x1 (x2 + (zI 1)) (mu_s_opn z6.2 z6.1) _ _ _ _ _ hf hP hD hS (lv_sub hl [2, 3, 0] rfl)
        · have hf := iff_ c5 hf
          refine lv_iconst (v := zI 1) hx hb dX3_room_39 (by decide) ?_
          refine lv_goto (tgt := 44) hx hb dX3_room_40 (by decide) ?_
          refine lv_istore_n (lv' := [(3, .int (zI 1)), (0, .ref (a 0)), (1, .int x1), (2, .int x2)]) hx hb dX3_room_44 rfl hl (by decide) rfl (fun ls hl => ?_)
          refine lv_aload_n hx hb dX3_room_45 rfl (lv_at hl 1 rfl) ?_
          refine lv_aload_n hx hb dX3_room_46 rfl (lv_at hl 1 rfl) ?_
          refine lv_iconst (v := zI 0) hx hb dX3_room_47 (by decide) ?_
          refine lv_iconst (v := zI 0) hx hb dX3_room_48 (by decide) ?_
          obtain ⟨z9, hz10, hf⟩ := bd hf
          refine vz_call (rest := [.ref (a 0)]) X (kX3_pick hz10) (cwV 2 hts gX3_room_X3_pick rfl rfl rfl (by decide +kernel) ⟨Nat.le_of_ble_eq_true rfl, Nat.le_of_ble_eq_true rfl⟩) 0 3 rfl rfl rfl hl.1 rfl (Nat.le_of_ble_eq_true rfl) dX3_room_49 ⟨Nat.zero_le _, Nat.zero_le _⟩ hP hD hS (fun H locs hP hD hS => ?_)
          refine va_put (D := D) (ci := 3) (v := .int z9.1) (ty := .int) (C := RX3) (T := TX3) (N := 16) hx hb hts in_X3_room_X3 tyX3 tyX3_ok nmX3 hown hK hP hD hS 0 rfl rfl 8 (by decide) (hts _ (List.mem_of_getElem? (i := 1) rfl)) (fun _ h9 => h9) rfl (by decide +kernel) rfl rfl (Nat.le_of_ble_eq_true rfl) dX3_room_52 (fun H locs hP hD hS => ?_)
          have hP : va_P D vwCl (MW a n cA (mu_s_opn z9.2 z9.1)) H := hP
          have hD : va_D A (MW a n cA (mu_s_opn z9.2 z9.1)) := hD
          refine lv_iload_n hx hb dX3_room_55 rfl (lv_at hl 0 rfl) ?_
          refine lv_if_eq (tgt := 116) hx hb dX3_room_56 (by decide) (fun c11 => absurd c11 (by decide)) (fun c11 => ?_)
          refine lv_iload_n hx hb dX3_room_59 rfl (lv_at hl 2 rfl) ?_
          refine lv_if_ne (tgt := 74) hx hb dX3_room_60 (by decide) (fun c12 => ?_) (fun c12 => ?_)
          · have hf := iff_ c12 hf
            refine lv_iconst (v := zI 0) hx hb dX3_room_74 (by decide) ?_
            refine lv_istore (lv' := [(4, .int (zI 0)), (3, .int (zI 1)), (0, .ref (a 0)), (1, .int x1), (2, .int x2)]) hx hb dX3_room_75 hl (by decide) rfl (fun ls hl => ?_)
            refine lv_iload_n hx hb dX3_room_77 rfl (lv_at hl 3 rfl) ?_
            refine lv_if_ne (tgt := 86) hx hb dX3_room_78 (by decide) (fun c13 => ?_) (fun c13 => absurd c13 c12)
            refine lv_iconst (v := zI 1) hx hb dX3_room_86 (by decide) ?_
            refine lv_goto (tgt := 91) hx hb dX3_room_87 (by decide) ?_
            refine lv_istore_n (lv' := [(1, .int (zI 1)), (4, .int (zI 0)), (3, .int (zI 1)), (0, .ref (a 0)), (2, .int x2)]) hx hb dX3_room_91 rfl hl (by decide) rfl (fun ls hl => ?_)
            refine lv_aload_n hx hb dX3_room_92 rfl (lv_at hl 3 rfl) ?_
            refine lv_aload_n hx hb dX3_room_93 rfl (lv_at hl 3 rfl) ?_
            refine lv_iconst (v := zI 4) hx hb dX3_room_94 (by decide) ?_
            refine lv_iload hx hb dX3_room_95 (lv_at hl 1 rfl) ?_
            refine lv_if_ne (tgt := 104) hx hb dX3_room_97 (by decide) (fun c14 => absurd (by decide) c14) (fun c14 => ?_)
            refine lv_iconst (v := zI 1) hx hb dX3_room_100 (by decide) ?_
            refine lv_goto (tgt := 105) hx hb dX3_room_101 (by decide) ?_
            obtain ⟨z15, hz16, hf⟩ := bd hf
            refine vz_call (rest := [.ref (a 0)]) X (kX3_pick hz16) (cwV 2 hts gX3_room_X3_pick rfl rfl rfl (by decide +kernel) ⟨Nat.le_of_ble_eq_true rfl, Nat.le_of_ble_eq_true rfl⟩) 0 3 rfl rfl rfl hl.1 rfl (Nat.le_of_ble_eq_true rfl) dX3_room_105 ⟨Nat.zero_le _, Nat.zero_le _⟩ hP hD hS (fun H locs hP hD hS => ?_)
            obtain ⟨z17, hz18, hf⟩ := bd hf
            refine vz_call (rest := []) X (kX3_collect hz18) (cwV 1 hts gX3_room_X3_collect rfl rfl rfl (by decide +kernel) ⟨Nat.le_of_ble_eq_true rfl, Nat.le_of_ble_eq_true rfl⟩) 0 3 rfl rfl rfl hl.1 rfl (Nat.le_of_ble_eq_true rfl) dX3_room_108 ⟨Nat.zero_le _, Nat.zero_le _⟩ hP hD hS (fun H locs hP hD hS => ?_)
            refine lv_if_ne (tgt := 116) hx hb dX3_room_111 (by decide) (fun c19 => ?_) (fun c19 => ?_)
            · have hf := iff_ c19 hf
              refine lv_iinc (v := x2 + (zI 1)) (lv' := [(2, .int (x2 + (zI 1))), (1, .int (zI 1)), (4, .int (zI 0)), (3, .int (zI 1)), (0, .ref (a 0))]) hx hb dX3_room_116 hl (k := 4) rfl rfl (by decide) rfl (fun ls hl => ?_)
              refine lv_goto (tgt := 4) hx hb dX3_room_119 (by decide) ?_
              exact ih (zI 1) (x2 + (zI 1)) z17.2 _ _ _ _ _ hf hP hD hS (lv_sub hl [4, 1, 0] rfl)
            · have hf := ift c19 hf
              refine lv_iconst (v := zI 0) hx hb dX3_room_114 (by decide) ?_
              cases hf
              exact vz_zret X rfl hP hD hS dX3_room_115
          · have hf := ift c12 hf
            refine lv_aload_n hx hb dX3_room_63 rfl (lv_at hl 1 rfl) ?_
            obtain ⟨z20, hz21, hf⟩ := bd hf
            refine vz_call (rest := []) X (kX3_uneven hz21) (cwV 0 hts gX3_room_X3_uneven rfl rfl rfl (by decide +kernel) ⟨Nat.le_of_ble_eq_true rfl, Nat.le_of_ble_eq_true rfl⟩) 0 3 rfl rfl rfl hl.1 rfl (Nat.le_of_ble_eq_true rfl) dX3_room_64 ⟨Nat.zero_le _, Nat.zero_le _⟩ hP hD hS (fun H locs hP hD hS => ?_)
            refine lv_if_eq (tgt := 74) hx hb dX3_room_67 (by decide) (fun c22 => ?_) (fun c22 => ?_)
            · have hf := ift c22 hf
              refine lv_iconst (v := zI 0) hx hb dX3_room_74 (by decide) ?_
              refine lv_istore (lv' := [(4, .int (zI 0)), (3, .int (zI 1)), (0, .ref (a 0)), (1, .int x1), (2, .int x2)]) hx hb dX3_room_75 hl (by decide) rfl (fun ls hl => ?_)
              refine lv_iload_n hx hb dX3_room_77 rfl (lv_at hl 3 rfl) ?_
              refine lv_if_ne (tgt := 86) hx hb dX3_room_78 (by decide) (fun c23 => absurd c12 c23) (fun c23 => ?_)
              refine lv_iload hx hb dX3_room_81 (lv_at hl 0 rfl) ?_
              refine lv_if_eq (tgt := 90) hx hb dX3_room_83 (by decide) (fun c24 => ?_) (fun c24 => absurd (by decide) c24)
              refine lv_iconst (v := zI 0) hx hb dX3_room_90 (by decide) ?_
              refine lv_istore_n (lv' := [(1, .int (zI 0)), (4, .int (zI 0)), (3, .int (zI 1)), (0, .ref (a 0)), (2, .int x2)]) hx hb dX3_room_91 rfl hl (by decide) rfl (fun ls hl => ?_)
              refine lv_aload_n hx hb dX3_room_92 rfl (lv_at hl 3 rfl) ?_
              refine lv_aload_n hx hb dX3_room_93 rfl (lv_at hl 3 rfl) ?_
              refine lv_iconst (v := zI 4) hx hb dX3_room_94 (by decide) ?_
              refine lv_iload hx hb dX3_room_95 (lv_at hl 1 rfl) ?_
              refine lv_if_ne (tgt := 104) hx hb dX3_room_97 (by decide) (fun c25 => absurd (by decide) c25) (fun c25 => ?_)
              refine lv_iconst (v := zI 1) hx hb dX3_room_100 (by decide) ?_
              refine lv_goto (tgt := 105) hx hb dX3_room_101 (by decide) ?_
              obtain ⟨z26, hz27, hf⟩ := bd hf
              refine vz_call (rest := [.ref (a 0)]) X (kX3_pick hz27) (cwV 2 hts gX3_room_X3_pick rfl rfl rfl (by decide +kernel) ⟨Nat.le_of_ble_eq_true rfl, Nat.le_of_ble_eq_true rfl⟩) 0 3 rfl rfl rfl hl.1 rfl (Nat.le_of_ble_eq_true rfl) dX3_room_105 ⟨Nat.zero_le _, Nat.zero_le _⟩ hP hD hS (fun H locs hP hD hS => ?_)
              obtain ⟨z28, hz29, hf⟩ := bd hf
              refine vz_call (rest := []) X (kX3_collect hz29) (cwV 1 hts gX3_room_X3_collect rfl rfl rfl (by decide +kernel) ⟨Nat.le_of_ble_eq_true rfl, Nat.le_of_ble_eq_true rfl⟩) 0 3 rfl rfl rfl hl.1 rfl (Nat.le_of_ble_eq_true rfl) dX3_room_108 ⟨Nat.zero_le _, Nat.zero_le _⟩ hP hD hS (fun H locs hP hD hS => ?_)
              refine lv_if_ne (tgt := 116) hx hb dX3_room_111 (by decide) (fun c30 => ?_) (fun c30 => ?_)
              · have hf := iff_ c30 hf
                refine lv_iinc (v := x2 + (zI 1)) (lv' := [(2, .int (x2 + (zI 1))), (1, .int (zI 0)), (4, .int (zI 0)), (3, .int (zI 1)), (0, .ref (a 0))]) hx hb dX3_room_116 hl (k := 4) rfl rfl (by decide) rfl (fun ls hl => ?_)
                refine lv_goto (tgt := 4) hx hb dX3_room_119 (by decide) ?_
                exact ih (zI 0) (x2 + (zI 1)) z28.2 _ _ _ _ _ hf hP hD hS (lv_sub hl [4, 1, 0] rfl)
              · have hf := ift c30 hf
                refine lv_iconst (v := zI 0) hx hb dX3_room_114 (by decide) ?_
                cases hf
                exact vz_zret X rfl hP hD hS dX3_room_115
            · have hf := iff_ c22 hf
              refine lv_iconst (v := zI 1) hx hb dX3_room_70 (by decide) ?_
              refine lv_goto (tgt := 75) hx hb dX3_room_71 (by decide) ?_
              refine lv_istore (lv' := [(4, .int (zI 1)), (3, .int (zI 1)), (0, .ref (a 0)), (1, .int x1), (2, .int x2)]) hx hb dX3_room_75 hl (by decide) rfl (fun ls hl => ?_)
              refine lv_iload_n hx hb dX3_room_77 rfl (lv_at hl 3 rfl) ?_
              refine lv_if_ne (tgt := 86) hx hb dX3_room_78 (by decide) (fun c31 => absurd c12 c31) (fun c31 => ?_)
              refine lv_iload hx hb dX3_room_81 (lv_at hl 0 rfl) ?_
              refine lv_if_eq (tgt := 90) hx hb dX3_room_83 (by decide) (fun c32 => absurd c32 (by decide)) (fun c32 => ?_)
              refine lv_iconst (v := zI 1) hx hb dX3_room_86 (by decide) ?_
              refine lv_goto (tgt := 91) hx hb dX3_room_87 (by decide) ?_
              refine lv_istore_n (lv' := [(1, .int (zI 1)), (4, .int (zI 1)), (3, .int (zI 1)), (0, .ref (a 0)), (2, .int x2)]) hx hb dX3_room_91 rfl hl (by decide) rfl (fun ls hl => ?_)
              refine lv_aload_n hx hb dX3_room_92 rfl (lv_at hl 3 rfl) ?_
              refine lv_aload_n hx hb dX3_room_93 rfl (lv_at hl 3 rfl) ?_
              refine lv_iconst (v := zI 4) hx hb dX3_room_94 (by decide) ?_
              refine lv_iload hx hb dX3_room_95 (lv_at hl 1 rfl) ?_
              refine lv_if_ne (tgt := 104) hx hb dX3_room_97 (by decide) (fun c33 => ?_) (fun c33 => absurd c33 (by decide))
              refine lv_iconst (v := zI 0) hx hb dX3_room_104 (by decide) ?_
              obtain ⟨z34, hz35, hf⟩ := bd hf
              refine vz_call (rest := [.ref (a 0)]) X (kX3_pick hz35) (cwV 2 hts gX3_room_X3_pick rfl rfl rfl (by decide +kernel) ⟨Nat.le_of_ble_eq_true rfl, Nat.le_of_ble_eq_true rfl⟩) 0 3 rfl rfl rfl hl.1 rfl (Nat.le_of_ble_eq_true rfl) dX3_room_105 ⟨Nat.zero_le _, Nat.zero_le _⟩ hP hD hS (fun H locs hP hD hS => ?_)
              obtain ⟨z36, hz37, hf⟩ := bd hf
              refine vz_call (rest := []) X (kX3_collect hz37) (cwV 1 hts gX3_room_X3_collect rfl rfl rfl (by decide +kernel) ⟨Nat.le_of_ble_eq_true rfl, Nat.le_of_ble_eq_true rfl⟩) 0 3 rfl rfl rfl hl.1 rfl (Nat.le_of_ble_eq_true rfl) dX3_room_108 ⟨Nat.zero_le _, Nat.zero_le _⟩ hP hD hS (fun H locs hP hD hS => ?_)
              refine lv_if_ne (tgt := 116) hx hb dX3_room_111 (by decide) (fun c38 => ?_) (fun c38 => ?_)
              · have hf := iff_ c38 hf
                refine lv_iinc (v := x2 + (zI 1)) (lv' := [(2, .int (x2 + (zI 1))), (1, .int (zI 1)), (4, .int (zI 1)), (3, .int (zI 1)), (0, .ref (a 0))]) hx hb dX3_room_116 hl (k := 4) rfl rfl (by decide) rfl (fun ls hl => ?_)
                refine lv_goto (tgt := 4) hx hb dX3_room_119 (by decide) ?_
                exact ih (zI 1) (x2 + (zI 1)) z36.2 _ _ _ _ _ hf hP hD hS (lv_sub hl [4, 1, 0] rfl)
              · have hf := ift c38 hf
                refine lv_iconst (v := zI 0) hx hb dX3_room_114 (by decide) ?_
                cases hf
                exact vz_zret X rfl hP hD hS dX3_room_115
      · have hf := iff_ c2 hf
        refine lv_aload_n hx hb dX3_room_19 rfl (lv_at hl 0 rfl) ?_
        refine lv_aload_n hx hb dX3_room_20 rfl (lv_at hl 0 rfl) ?_
        refine va_get (D := D) (ci := 3) (v := .int (mu_opn u)) (C := RX3) (T := TX3) (N := 16) hx hb hts in_X3_room_X3 hown hK hP 0 rfl rfl 8 (by decide) (hts _ (List.mem_of_getElem? (i := 1) rfl)) (fun _ h9 => h9) rfl dX3_room_21 ?_
        obtain ⟨z39, hz40, hf⟩ := bd hf
        refine vz_call (rest := []) X (kX3_programmed hz40) (cwV 1 hts gX3_room_X3_programmed rfl rfl rfl (by decide +kernel) ⟨Nat.le_of_ble_eq_true rfl, Nat.le_of_ble_eq_true rfl⟩) 0 3 rfl rfl rfl hl.1 rfl (Nat.le_of_ble_eq_true rfl) dX3_room_24 ⟨Nat.zero_le _, Nat.zero_le _⟩ hP hD hS (fun H locs hP hD hS => ?_)
        refine lv_iconst (v := zI 4) hx hb dX3_room_27 (by decide) ?_
        refine lv_icmp_ne (tgt := 122) hx hb dX3_room_28 (by decide) (fun c41 => ?_) (fun c41 => ?_)
        · have hf := iff_ c41 hf
          refine lv_iconst (v := zI 1) hx hb dX3_room_122 (by decide) ?_
          cases hf
          exact vz_zret X rfl hP hD hS dX3_room_123
        · have hf := ift c41 hf
          refine lv_aload_n hx hb dX3_room_31 rfl (lv_at hl 0 rfl) ?_
          obtain ⟨z42, hz43, hf⟩ := bd hf
          refine vz_call (rest := []) X (kX3_freeBlocks hz43) (cwV 0 hts gX3_room_X3_freeBlocks rfl rfl rfl (by decide +kernel) ⟨Nat.le_of_ble_eq_true rfl, Nat.le_of_ble_eq_true rfl⟩) 0 3 rfl rfl rfl hl.1 rfl (Nat.le_of_ble_eq_true rfl) dX3_room_32 ⟨Nat.zero_le _, Nat.zero_le _⟩ hP hD hS (fun H locs hP hD hS => ?_)
          refine lv_iconst (v := zI 2) hx hb dX3_room_35 (by decide) ?_
          refine lv_icmp_ge (tgt := 43) hx hb dX3_room_36 (by decide) (fun c44 => ?_) (fun c44 => ?_)
          · have hf := ift c44 hf
            refine lv_iconst (v := zI 0) hx hb dX3_room_43 (by decide) ?_
            refine lv_istore_n (lv' := [(3, .int (zI 0)), (0, .ref (a 0)), (1, .int x1), (2, .int x2)]) hx hb dX3_room_44 rfl hl (by decide) rfl (fun ls hl => ?_)
            refine lv_aload_n hx hb dX3_room_45 rfl (lv_at hl 1 rfl) ?_
            refine lv_aload_n hx hb dX3_room_46 rfl (lv_at hl 1 rfl) ?_
            refine lv_iconst (v := zI 0) hx hb dX3_room_47 (by decide) ?_
            refine lv_iconst (v := zI 0) hx hb dX3_room_48 (by decide) ?_
            obtain ⟨z45, hz46, hf⟩ := bd hf
            refine vz_call (rest := [.ref (a 0)]) X (kX3_pick hz46) (cwV 2 hts gX3_room_X3_pick rfl rfl rfl (by decide +kernel) ⟨Nat.le_of_ble_eq_true rfl, Nat.le_of_ble_eq_true rfl⟩) 0 3 rfl rfl rfl hl.1 rfl (Nat.le_of_ble_eq_true rfl) dX3_room_49 ⟨Nat.zero_le _, Nat.zero_le _⟩ hP hD hS (fun H locs hP hD hS => ?_)
            refine va_put (D := D) (ci := 3) (v := .int z45.1) (ty := .int) (C := RX3) (T := TX3) (N := 16) hx hb hts in_X3_room_X3 tyX3 tyX3_ok nmX3 hown hK hP hD hS 0 rfl rfl 8 (by decide) (hts _ (List.mem_of_getElem? (i := 1) rfl)) (fun _ h9 => h9) rfl (by decide +kernel) rfl rfl (Nat.le_of_ble_eq_true rfl) dX3_room_52 (fun H locs hP hD hS => ?_)
            have hP : va_P D vwCl (MW a n cA (mu_s_opn z45.2 z45.1)) H := hP
            have hD : va_D A (MW a n cA (mu_s_opn z45.2 z45.1)) := hD
            refine lv_iload_n hx hb dX3_room_55 rfl (lv_at hl 0 rfl) ?_
            refine lv_if_eq (tgt := 116) hx hb dX3_room_56 (by decide) (fun c47 => ?_) (fun c47 => absurd (by decide) c47)
            refine lv_iinc (v := x2 + (zI 1)) (lv' := [(2, .int (x2 + (zI 1))), (3, .int (zI 0)), (0, .ref (a 0)), (1, .int x1)]) hx hb dX3_room_116 hl (k := 3) rfl rfl (by decide) rfl (fun ls hl => ?_)
            refine lv_goto (tgt := 4) hx hb dX3_room_119 (by decide) ?_
            exact ih x1 (x2 + (zI 1)) (mu_s_opn z45.2 z45.1) _ _ _ _ _ hf hP hD hS (lv_sub hl [2, 3, 0] rfl)
          · have hf := iff_ c44 hf
            refine lv_iconst (v := zI 1) hx hb dX3_room_39 (by decide) ?_
            refine lv_goto (tgt := 44) hx hb dX3_room_40 (by decide) ?_
            refine lv_istore_n (lv' := [(3, .int (zI 1)), (0, .ref (a 0)), (1, .int x1), (2, .int x2)]) hx hb dX3_room_44 rfl hl (by decide) rfl (fun ls hl => ?_)
            refine lv_aload_n hx hb dX3_room_45 rfl (lv_at hl 1 rfl) ?_
            refine lv_aload_n hx hb dX3_room_46 rfl (lv_at hl 1 rfl) ?_
            refine lv_iconst (v := zI 0) hx hb dX3_room_47 (by decide) ?_
            refine lv_iconst (v := zI 0) hx hb dX3_room_48 (by decide) ?_
            obtain ⟨z48, hz49, hf⟩ := bd hf
            refine vz_call (rest := [.ref (a 0)]) X (kX3_pick hz49) (cwV 2 hts gX3_room_X3_pick rfl rfl rfl (by decide +kernel) ⟨Nat.le_of_ble_eq_true rfl, Nat.le_of_ble_eq_true rfl⟩) 0 3 rfl rfl rfl hl.1 rfl (Nat.le_of_ble_eq_true rfl) dX3_room_49 ⟨Nat.zero_le _, Nat.zero_le _⟩ hP hD hS (fun H locs hP hD hS => ?_)
            refine va_put (D := D) (ci := 3) (v := .int z48.1) (ty := .int) (C := RX3) (T := TX3) (N := 16) hx hb hts in_X3_room_X3 tyX3 tyX3_ok nmX3 hown hK hP hD hS 0 rfl rfl 8 (by decide) (hts _ (List.mem_of_getElem? (i := 1) rfl)) (fun _ h9 => h9) rfl (by decide +kernel) rfl rfl (Nat.le_of_ble_eq_true rfl) dX3_room_52 (fun H locs hP hD hS => ?_)
            have hP : va_P D vwCl (MW a n cA (mu_s_opn z48.2 z48.1)) H := hP
            have hD : va_D A (MW a n cA (mu_s_opn z48.2 z48.1)) := hD
            refine lv_iload_n hx hb dX3_room_55 rfl (lv_at hl 0 rfl) ?_
            refine lv_if_eq (tgt := 116) hx hb dX3_room_56 (by decide) (fun c50 => absurd c50 (by decide)) (fun c50 => ?_)
            refine lv_iload_n hx hb dX3_room_59 rfl (lv_at hl 2 rfl) ?_
            refine lv_if_ne (tgt := 74) hx hb dX3_room_60 (by decide) (fun c51 => ?_) (fun c51 => ?_)
            · have hf := iff_ c51 hf
              refine lv_iconst (v := zI 0) hx hb dX3_room_74 (by decide) ?_
              refine lv_istore (lv' := [(4, .int (zI 0)), (3, .int (zI 1)), (0, .ref (a 0)), (1, .int x1), (2, .int x2)]) hx hb dX3_room_75 hl (by decide) rfl (fun ls hl => ?_)
              refine lv_iload_n hx hb dX3_room_77 rfl (lv_at hl 3 rfl) ?_
              refine lv_if_ne (tgt := 86) hx hb dX3_room_78 (by decide) (fun c52 => ?_) (fun c52 => absurd c52 c51)
              refine lv_iconst (v := zI 1) hx hb dX3_room_86 (by decide) ?_
              refine lv_goto (tgt := 91) hx hb dX3_room_87 (by decide) ?_
              refine lv_istore_n (lv' := [(1, .int (zI 1)), (4, .int (zI 0)), (3, .int (zI 1)), (0, .ref (a 0)), (2, .int x2)]) hx hb dX3_room_91 rfl hl (by decide) rfl (fun ls hl => ?_)
              refine lv_aload_n hx hb dX3_room_92 rfl (lv_at hl 3 rfl) ?_
              refine lv_aload_n hx hb dX3_room_93 rfl (lv_at hl 3 rfl) ?_
              refine lv_iconst (v := zI 4) hx hb dX3_room_94 (by decide) ?_
              refine lv_iload hx hb dX3_room_95 (lv_at hl 1 rfl) ?_
              refine lv_if_ne (tgt := 104) hx hb dX3_room_97 (by decide) (fun c53 => absurd (by decide) c53) (fun c53 => ?_)
              refine lv_iconst (v := zI 1) hx hb dX3_room_100 (by decide) ?_
              refine lv_goto (tgt := 105) hx hb dX3_room_101 (by decide) ?_
              obtain ⟨z54, hz55, hf⟩ := bd hf
              refine vz_call (rest := [.ref (a 0)]) X (kX3_pick hz55) (cwV 2 hts gX3_room_X3_pick rfl rfl rfl (by decide +kernel) ⟨Nat.le_of_ble_eq_true rfl, Nat.le_of_ble_eq_true rfl⟩) 0 3 rfl rfl rfl hl.1 rfl (Nat.le_of_ble_eq_true rfl) dX3_room_105 ⟨Nat.zero_le _, Nat.zero_le _⟩ hP hD hS (fun H locs hP hD hS => ?_)
              obtain ⟨z56, hz57, hf⟩ := bd hf
              refine vz_call (rest := []) X (kX3_collect hz57) (cwV 1 hts gX3_room_X3_collect rfl rfl rfl (by decide +kernel) ⟨Nat.le_of_ble_eq_true rfl, Nat.le_of_ble_eq_true rfl⟩) 0 3 rfl rfl rfl hl.1 rfl (Nat.le_of_ble_eq_true rfl) dX3_room_108 ⟨Nat.zero_le _, Nat.zero_le _⟩ hP hD hS (fun H locs hP hD hS => ?_)
              refine lv_if_ne (tgt := 116) hx hb dX3_room_111 (by decide) (fun c58 => ?_) (fun c58 => ?_)
              · have hf := iff_ c58 hf
                refine lv_iinc (v := x2 + (zI 1)) (lv' := [(2, .int (x2 + (zI 1))), (1, .int (zI 1)), (4, .int (zI 0)), (3, .int (zI 1)), (0, .ref (a 0))]) hx hb dX3_room_116 hl (k := 4) rfl rfl (by decide) rfl (fun ls hl => ?_)
                refine lv_goto (tgt := 4) hx hb dX3_room_119 (by decide) ?_
                exact ih (zI 1) (x2 + (zI 1)) z56.2 _ _ _ _ _ hf hP hD hS (lv_sub hl [4, 1, 0] rfl)
              · have hf := ift c58 hf
                refine lv_iconst (v := zI 0) hx hb dX3_room_114 (by decide) ?_
                cases hf
                exact vz_zret X rfl hP hD hS dX3_room_115
            · have hf := ift c51 hf
              refine lv_aload_n hx hb dX3_room_63 rfl (lv_at hl 1 rfl) ?_
              obtain ⟨z59, hz60, hf⟩ := bd hf
              refine vz_call (rest := []) X (kX3_uneven hz60) (cwV 0 hts gX3_room_X3_uneven rfl rfl rfl (by decide +kernel) ⟨Nat.le_of_ble_eq_true rfl, Nat.le_of_ble_eq_true rfl⟩) 0 3 rfl rfl rfl hl.1 rfl (Nat.le_of_ble_eq_true rfl) dX3_room_64 ⟨Nat.zero_le _, Nat.zero_le _⟩ hP hD hS (fun H locs hP hD hS => ?_)
              refine lv_if_eq (tgt := 74) hx hb dX3_room_67 (by decide) (fun c61 => ?_) (fun c61 => ?_)
              · have hf := ift c61 hf
                refine lv_iconst (v := zI 0) hx hb dX3_room_74 (by decide) ?_
                refine lv_istore (lv' := [(4, .int (zI 0)), (3, .int (zI 1)), (0, .ref (a 0)), (1, .int x1), (2, .int x2)]) hx hb dX3_room_75 hl (by decide) rfl (fun ls hl => ?_)
                refine lv_iload_n hx hb dX3_room_77 rfl (lv_at hl 3 rfl) ?_
                refine lv_if_ne (tgt := 86) hx hb dX3_room_78 (by decide) (fun c62 => absurd c51 c62) (fun c62 => ?_)
                refine lv_iload hx hb dX3_room_81 (lv_at hl 0 rfl) ?_
                refine lv_if_eq (tgt := 90) hx hb dX3_room_83 (by decide) (fun c63 => ?_) (fun c63 => absurd (by decide) c63)
                refine lv_iconst (v := zI 0) hx hb dX3_room_90 (by decide) ?_
                refine lv_istore_n (lv' := [(1, .int (zI 0)), (4, .int (zI 0)), (3, .int (zI 1)), (0, .ref (a 0)), (2, .int x2)]) hx hb dX3_room_91 rfl hl (by decide) rfl (fun ls hl => ?_)
                refine lv_aload_n hx hb dX3_room_92 rfl (lv_at hl 3 rfl) ?_
                refine lv_aload_n hx hb dX3_room_93 rfl (lv_at hl 3 rfl) ?_
                refine lv_iconst (v := zI 4) hx hb dX3_room_94 (by decide) ?_
                refine lv_iload hx hb dX3_room_95 (lv_at hl 1 rfl) ?_
                refine lv_if_ne (tgt := 104) hx hb dX3_room_97 (by decide) (fun c64 => absurd (by decide) c64) (fun c64 => ?_)
                refine lv_iconst (v := zI 1) hx hb dX3_room_100 (by decide) ?_
                refine lv_goto (tgt := 105) hx hb dX3_room_101 (by decide) ?_
                obtain ⟨z65, hz66, hf⟩ := bd hf
                refine vz_call (rest := [.ref (a 0)]) X (kX3_pick hz66) (cwV 2 hts gX3_room_X3_pick rfl rfl rfl (by decide +kernel) ⟨Nat.le_of_ble_eq_true rfl, Nat.le_of_ble_eq_true rfl⟩) 0 3 rfl rfl rfl hl.1 rfl (Nat.le_of_ble_eq_true rfl) dX3_room_105 ⟨Nat.zero_le _, Nat.zero_le _⟩ hP hD hS (fun H locs hP hD hS => ?_)
                obtain ⟨z67, hz68, hf⟩ := bd hf
                refine vz_call (rest := []) X (kX3_collect hz68) (cwV 1 hts gX3_room_X3_collect rfl rfl rfl (by decide +kernel) ⟨Nat.le_of_ble_eq_true rfl, Nat.le_of_ble_eq_true rfl⟩) 0 3 rfl rfl rfl hl.1 rfl (Nat.le_of_ble_eq_true rfl) dX3_room_108 ⟨Nat.zero_le _, Nat.zero_le _⟩ hP hD hS (fun H locs hP hD hS => ?_)
                refine lv_if_ne (tgt := 116) hx hb dX3_room_111 (by decide) (fun c69 => ?_) (fun c69 => ?_)
                · have hf := iff_ c69 hf
                  refine lv_iinc (v := x2 + (zI 1)) (lv' := [(2, .int (x2 + (zI 1))), (1, .int (zI 0)), (4, .int (zI 0)), (3, .int (zI 1)), (0, .ref (a 0))]) hx hb dX3_room_116 hl (k := 4) rfl rfl (by decide) rfl (fun ls hl => ?_)
                  refine lv_goto (tgt := 4) hx hb dX3_room_119 (by decide) ?_
                  exact ih (zI 0) (x2 + (zI 1)) z67.2 _ _ _ _ _ hf hP hD hS (lv_sub hl [4, 1, 0] rfl)
                · have hf := ift c69 hf
                  refine lv_iconst (v := zI 0) hx hb dX3_room_114 (by decide) ?_
                  cases hf
                  exact vz_zret X rfl hP hD hS dX3_room_115
              · have hf := iff_ c61 hf
                refine lv_iconst (v := zI 1) hx hb dX3_room_70 (by decide) ?_
                refine lv_goto (tgt := 75) hx hb dX3_room_71 (by decide) ?_
                refine lv_istore (lv' := [(4, .int (zI 1)), (3, .int (zI 1)), (0, .ref (a 0)), (1, .int x1), (2, .int x2)]) hx hb dX3_room_75 hl (by decide) rfl (fun ls hl => ?_)
                refine lv_iload_n hx hb dX3_room_77 rfl (lv_at hl 3 rfl) ?_
                refine lv_if_ne (tgt := 86) hx hb dX3_room_78 (by decide) (fun c70 => absurd c51 c70) (fun c70 => ?_)
                refine lv_iload hx hb dX3_room_81 (lv_at hl 0 rfl) ?_
                refine lv_if_eq (tgt := 90) hx hb dX3_room_83 (by decide) (fun c71 => absurd c71 (by decide)) (fun c71 => ?_)
                refine lv_iconst (v := zI 1) hx hb dX3_room_86 (by decide) ?_
                refine lv_goto (tgt := 91) hx hb dX3_room_87 (by decide) ?_
                refine lv_istore_n (lv' := [(1, .int (zI 1)), (4, .int (zI 1)), (3, .int (zI 1)), (0, .ref (a 0)), (2, .int x2)]) hx hb dX3_room_91 rfl hl (by decide) rfl (fun ls hl => ?_)
                refine lv_aload_n hx hb dX3_room_92 rfl (lv_at hl 3 rfl) ?_
                refine lv_aload_n hx hb dX3_room_93 rfl (lv_at hl 3 rfl) ?_
                refine lv_iconst (v := zI 4) hx hb dX3_room_94 (by decide) ?_
                refine lv_iload hx hb dX3_room_95 (lv_at hl 1 rfl) ?_
                refine lv_if_ne (tgt := 104) hx hb dX3_room_97 (by decide) (fun c72 => ?_) (fun c72 => absurd c72 (by decide))
                refine lv_iconst (v := zI 0) hx hb dX3_room_104 (by decide) ?_
                obtain ⟨z73, hz74, hf⟩ := bd hf
                refine vz_call (rest := [.ref (a 0)]) X (kX3_pick hz74) (cwV 2 hts gX3_room_X3_pick rfl rfl rfl (by decide +kernel) ⟨Nat.le_of_ble_eq_true rfl, Nat.le_of_ble_eq_true rfl⟩) 0 3 rfl rfl rfl hl.1 rfl (Nat.le_of_ble_eq_true rfl) dX3_room_105 ⟨Nat.zero_le _, Nat.zero_le _⟩ hP hD hS (fun H locs hP hD hS => ?_)
                obtain ⟨z75, hz76, hf⟩ := bd hf
                refine vz_call (rest := []) X (kX3_collect hz76) (cwV 1 hts gX3_room_X3_collect rfl rfl rfl (by decide +kernel) ⟨Nat.le_of_ble_eq_true rfl, Nat.le_of_ble_eq_true rfl⟩) 0 3 rfl rfl rfl hl.1 rfl (Nat.le_of_ble_eq_true rfl) dX3_room_108 ⟨Nat.zero_le _, Nat.zero_le _⟩ hP hD hS (fun H locs hP hD hS => ?_)
                refine lv_if_ne (tgt := 116) hx hb dX3_room_111 (by decide) (fun c77 => ?_) (fun c77 => ?_)
                · have hf := iff_ c77 hf
                  refine lv_iinc (v := x2 + (zI 1)) (lv' := [(2, .int (x2 + (zI 1))), (1, .int (zI 1)), (4, .int (zI 1)), (3, .int (zI 1)), (0, .ref (a 0))]) hx hb dX3_room_116 hl (k := 4) rfl rfl (by decide) rfl (fun ls hl => ?_)
                  refine lv_goto (tgt := 4) hx hb dX3_room_119 (by decide) ?_
                  exact ih (zI 1) (x2 + (zI 1)) z75.2 _ _ _ _ _ hf hP hD hS (lv_sub hl [4, 1, 0] rfl)
                · have hf := ift c77 hf
                  refine lv_iconst (v := zI 0) hx hb dX3_room_114 (by decide) ?_
                  cases hf
                  exact vz_zret X rfl hP hD hS dX3_room_115
set_option maxHeartbeats 4000000 in
set_option maxRecDepth 100000 in
theorem lbX3_room_e {K : Nat} (X : vzX D (MT cA) A wsX3_room cX3_room 5 (some .boolean) RX3 p s m args meth c) : ∀ (u : MU) (H : Heap) (locs : List Loc) (ls : Array Slot) (r : Int32) (u2 : MU), fX3_room n K u = some (r, u2) → va_P D vwCl (MW a n cA u) H → va_D A (MW a n cA u) → va_S A s.heap H locs → lv_has ls 5 [(0, .ref (a 0))] → W p l e (headSpec wsX3_room rmX3_room).room s m args below meth c H locs 0 0 (MQ below (vzQ D (MT cA) (MW a n cA) A r u2) args s 0 0 A) (F0 m 0 ls []) := by
  obtain ⟨hx, hb, hr, hml, hown, hts, hlk, hN, hK, hA⟩ := id X
  intro u H locs ls r u2 hf hP hD hS hl
  unfold fX3_room at hf
  refine lv_iconst (v := zI 0) hx hb dX3_room_0 (by decide) ?_
  refine lv_istore_n (lv' := [(1, .int (zI 0)), (0, .ref (a 0))]) hx hb dX3_room_1 rfl hl (by decide) rfl (fun ls hl => ?_)
  refine lv_iconst (v := zI 0) hx hb dX3_room_2 (by decide) ?_
  refine lv_istore_n (lv' := [(2, .int (zI 0)), (1, .int (zI 0)), (0, .ref (a 0))]) hx hb dX3_room_3 rfl hl (by decide) rfl (fun ls hl => ?_)
  exact lbX3_room_4 X K (zI 0) (zI 0) u _ _ _ _ _ hf hP hD hS (lv_sub hl [2, 1, 0] rfl)
end
theorem kX3_room {l : Launch} {D : va_G} {a n : Nat → Nat} {cA : Nat → ClassId} {K : Nat} {u : MU} {r : Int32} {u2 : MU} (h : fX3_room n K u = some (r, u2)) : vzC l D (MT cA) (MW a n cA) yX3_room wsX3_room rmX3_room [.ref (a 0)] u r u2 := vzC.of (by decide) rfl (Nat.le_of_ble_eq_true rfl) (fun p e s m below meth c A ls X hP hD hl => lbX3_room_e X u s.heap [] ls r u2 h hP hD va_S.rf hl)
