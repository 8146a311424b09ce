abbrev rmX1_victim : Room := { frames := 2, cells := 0, slots := 0, locals := 44 }
theorem in_X1_victim_X1 : ∀ w ∈ u_ws RX1 TX1 11, w ∈ wsX1_victim := fun _ h => List.mem_cons_of_mem _ (List.mem_append_right _ h)
def fX1_victim_7 (n : Nat → Nat) (K : Nat) : Nat → Int32 → Int32 → Int32 → Int32 → XU → Option (Int32 × XU)
  | 0, _, _, _, _, _ => none
  | N + 1, x1, x2, x3, x4, u => if (xu_blk u) ≤ x4 then (some (x2, u)) else (vg x4 (n 7) (if (zI 4) ≤ ((xu_prg u) x4.toNatClampNeg) then (if x1 = 0 then ((fX1_countValid n K x4 u).bind fun z5 => (if x3 ≤ z5.1 then (if x2 = (zI (-1)) then (fX1_victim_7 n K N x1 x4 z5.1 (x4 + (zI 1)) z5.2) else (if z5.1 = x3 then (vg x4 (n 8) (vg x2 (n 8) (if ((xu_wea z5.2) x2.toNatClampNeg) ≤ ((xu_wea z5.2) x4.toNatClampNeg) then (fX1_victim_7 n K N x1 x2 x3 (x4 + (zI 1)) z5.2) else (fX1_victim_7 n K N x1 x4 z5.1 (x4 + (zI 1)) z5.2)))) else (fX1_victim_7 n K N x1 x2 x3 (x4 + (zI 1)) z5.2))) else (if x2 = (zI (-1)) then (fX1_victim_7 n K N x1 x4 z5.1 (x4 + (zI 1)) z5.2) else (if z5.1 = x3 then (vg x4 (n 8) (vg x2 (n 8) (if ((xu_wea z5.2) x2.toNatClampNeg) ≤ ((xu_wea z5.2) x4.toNatClampNeg) then (fX1_victim_7 n K N x1 x4 z5.1 (x4 + (zI 1)) z5.2) else (fX1_victim_7 n K N x1 x4 z5.1 (x4 + (zI 1)) z5.2)))) else (fX1_victim_7 n K N x1 x4 z5.1 (x4 + (zI 1)) z5.2))))) else (if x3 ≤ (zI 0) then (if x2 = (zI (-1)) then (fX1_victim_7 n K N x1 x4 (zI 0) (x4 + (zI 1)) u) else (if (zI 0) = x3 then (vg x4 (n 8) (vg x2 (n 8) (if ((xu_wea u) x2.toNatClampNeg) ≤ ((xu_wea u) x4.toNatClampNeg) then (fX1_victim_7 n K N x1 x2 x3 (x4 + (zI 1)) u) else (fX1_victim_7 n K N x1 x4 (zI 0) (x4 + (zI 1)) u)))) else (fX1_victim_7 n K N x1 x2 x3 (x4 + (zI 1)) u))) else (if x2 = (zI (-1)) then (fX1_victim_7 n K N x1 x4 (zI 0) (x4 + (zI 1)) u) else (if (zI 0) = x3 then (vg x4 (n 8) (vg x2 (n 8) (if ((xu_wea u) x2.toNatClampNeg) ≤ ((xu_wea u) x4.toNatClampNeg) then (fX1_victim_7 n K N x1 x4 (zI 0) (x4 + (zI 1)) u) else (fX1_victim_7 n K N x1 x4 (zI 0) (x4 + (zI 1)) u)))) else (fX1_victim_7 n K N x1 x4 (zI 0) (x4 + (zI 1)) u))))) else (fX1_victim_7 n K N x1 x2 x3 (x4 + (zI 1)) u)))
def fX1_victim (n : Nat → Nat) (K : Nat) (x1 : Int32) (u : XU) : Option (Int32 × XU) := fX1_victim_7 n K K x1 (zI (-1)) (zI 0) (zI 0) u
section
variable {p : Program} {l : Launch} {e : Env} {s : State} {m : MethodId} {args : Array Value} {below : List Frame} {meth : Method} {c : Code} {D : va_G} {a n : Nat → Nat} {cA : Nat → ClassId} {A : Nat → Prop}
set_option maxHeartbeats 4000000 in
set_option maxRecDepth 100000 in
theorem lbX1_victim_7 {K : Nat} (X : vzX D (XT cA) A wsX1_victim cX1_victim 8 (some .int) RX1 p s m args meth c) : ∀ (N : Nat) (x1 x2 x3 x4 : Int32) (u : XU) (H : Heap) (locs : List Loc) (ls : Array Slot) (r : Int32) (u2 : XU), fX1_victim_7 n K N x1 x2 x3 x4 u = some (r, u2) → va_P D vwCl (XW a n cA u) H → va_D A (XW a n cA u) → va_S A s.heap H locs → lv_has ls 8 [(0, .ref (a 1)), (1, .int x1), (2, .int x2), (3, .int x3), (4, .int x4)] → W p l e (headSpec wsX1_victim rmX1_victim).room s m args below meth c H locs 0 0 (MQ below (vzQ D (XT cA) (XW a n cA) A r u2) args s 0 0 A) (F0 m 7 ls []) := by
  obtain ⟨hx, hb, hr, hml, hown, hts, hlk, hN, hK, hA⟩ := id X
  intro N
  induction N with
  | zero =>
    intro x1 x2 x3 x4 u H locs ls r u2 hf
    cases hf
  | succ N ih =>
    intro x1 x2 x3 x4 u H locs ls r u2 hf hP hD hS hl
    rw [fX1_victim_7] at hf
    refine lv_iload hx hb dX1_victim_7 (lv_at hl 4 rfl) ?_
    refine lv_aload_n hx hb dX1_victim_9 rfl (lv_at hl 0 rfl) ?_
    refine va_get (D := D) (ci := 1) (v := .int (xu_blk u)) (C := RX1) (T := TX1) (N := 11) hx hb hts in_X1_victim_X1 hown hK hP 1 rfl rfl 0 (by decide) (hts _ (List.mem_of_getElem? (i := 1) rfl)) (fun _ h9 => h9) rfl dX1_victim_10 ?_
    refine lv_icmp_ge (tgt := 120) hx hb dX1_victim_13 (by decide) (fun c1 => ?_) (fun c1 => ?_)
    · have hf := ift c1 hf
      refine lv_iload_n hx hb dX1_victim_120 rfl (lv_at hl 2 rfl) ?_
      cases hf
      exact vz_iret X hP hD hS dX1_victim_121
    · have hf := iff_ c1 hf
      refine lv_aload_n hx hb dX1_victim_16 rfl (lv_at hl 0 rfl) ?_
      refine va_get (D := D) (ci := 1) (v := .ref (a 7)) (C := RX1) (T := TX1) (N := 11) hx hb hts in_X1_victim_X1 hown hK hP 1 rfl rfl 5 (by decide) (hts _ (List.mem_of_getElem? (i := 2) rfl)) (fun _ h9 => h9) rfl dX1_victim_17 ?_
      refine lv_iload hx hb dX1_victim_20 (lv_at hl 4 rfl) ?_
      obtain ⟨g2, hf⟩ := vgs hf
      refine va_iald hx hb hK hP 7 4 rfl rfl g2 dX1_victim_22 ?_
      refine lv_iconst (v := zI 4) hx hb dX1_victim_23 (by decide) ?_
      refine lv_icmp_ge (tgt := 30) hx hb dX1_victim_24 (by decide) (fun c3 => ?_) (fun c3 => ?_)
      · have hf := ift c3 hf
        refine lv_iload_n hx hb dX1_victim_30 rfl (lv_at hl 1 rfl) ?_
        refine lv_if_eq (tgt := 38) hx hb dX1_victim_31 (by decide) (fun c4 => ?_) (fun c4 => ?_)
        · have hf := ift c4 hf
          refine lv_aload_n hx hb dX1_victim_38 rfl (lv_at hl 0 rfl) ?_
          refine lv_iload hx hb dX1_victim_39 (lv_at hl 4 rfl) ?_
          obtain ⟨z5, hz6, hf⟩ := bd hf
          refine vz_call (rest := []) X (kX1_countValid hz6) (cwV 1 hts gX1_victim_X1_countValid rfl rfl rfl (by decide +kernel) ⟨Nat.le_of_ble_eq_true rfl, Nat.le_of_ble_eq_true rfl⟩) 1 1 rfl rfl rfl hl.1 rfl (Nat.le_of_ble_eq_true rfl) dX1_victim_41 ⟨Nat.zero_le _, Nat.zero_le _⟩ hP hD hS (fun H locs hP hD hS => ?_)
          refine lv_istore (lv' := [(5, .int z5.1), (0, .ref (a 1)), (1, .int x1), (2, .int x2), (3, .int x3), (4, .int x4)]) hx hb dX1_victim_44 hl (by decide) rfl (fun ls hl => ?_)
          refine lv_iload hx hb dX1_victim_46 (lv_at hl 0 rfl) ?_
          refine lv_iload_n hx hb dX1_victim_48 rfl (lv_at hl 4 rfl) ?_
          refine lv_icmp_ge (tgt := 56) hx hb dX1_victim_49 (by decide) (fun c7 => ?_) (fun c7 => ?_)
          · have hf := ift c7 hf
            refine lv_iconst (v := zI 0) hx hb dX1_victim_56 (by decide) ?_
            refine lv_istore (lv' := [(6, .int (zI 0)), (5, .int z5.1), (0, .ref (a 1)), (1, .int x1), (2, .int x2), (3, .int x3), (4, .int x4)]) hx hb dX1_victim_57 hl (by decide) rfl (fun ls hl => ?_)
            refine lv_iload_n hx hb dX1_victim_59 rfl (lv_at hl 4 rfl) ?_
            refine lv_iconst (v := zI (-1)) hx hb dX1_victim_60 (by decide) ?_
            refine lv_icmp_eq (tgt := 90) hx hb dX1_victim_61 (by decide) (fun c8 => ?_) (fun c8 => ?_)
            · have hf := ift c8 hf
              refine lv_iconst (v := zI 0) hx hb dX1_victim_90 (by decide) ?_
              refine lv_istore (lv' := [(7, .int (zI 0)), (6, .int (zI 0)), (5, .int z5.1), (0, .ref (a 1)), (1, .int x1), (2, .int x2), (3, .int x3), (4, .int x4)]) hx hb dX1_victim_91 hl (by decide) rfl (fun ls hl => ?_)
              refine lv_iload_n hx hb dX1_victim_93 rfl (lv_at hl 5 rfl) ?_
              refine lv_iconst (v := zI (-1)) hx hb dX1_victim_94 (by decide) ?_
              refine lv_icmp_eq (tgt := 108) hx hb dX1_victim_95 (by decide) (fun c9 => ?_) (fun c9 => absurd c8 c9)
              refine lv_iload hx hb dX1_victim_108 (lv_at hl 7 rfl) ?_
              refine lv_istore_n (lv' := [(2, .int x4), (7, .int (zI 0)), (6, .int (zI 0)), (5, .int z5.1), (0, .ref (a 1)), (1, .int x1), (3, .int x3), (4, .int x4)]) hx hb dX1_victim_110 rfl hl (by decide) rfl (fun ls hl => ?_)
              refine lv_iload hx hb dX1_victim_111 (lv_at hl 3 rfl) ?_
              refine lv_istore_n (lv' := [(3, .int z5.1), (2, .int x4), (7, .int (zI 0)), (6, .int (zI 0)), (5, .int z5.1), (0, .ref (a 1)), (1, .int x1), (4, .int x4)]) hx hb dX1_victim_113 rfl hl (by decide) rfl (fun ls hl => ?_)
              refine lv_iinc (v := x4 + (zI 1)) (lv' := [(4, .int (x4 + (zI 1))), (3, .int z5.1), (2, .int x4), (7, .int (zI 0)), (6, .int (zI 0)), (5, .int z5.1), (0, .ref (a 1)), (1, .int x1)]) hx hb dX1_victim_114 hl (k := 7) rfl rfl (by decide) rfl (fun ls hl => ?_)
              refine lv_goto (tgt := 7) hx hb dX1_victim_117 (by decide) ?_
              exact ih x1 x4 z5.1 (x4 + (zI 1)) z5.2 _ _ _ _ _ hf hP hD hS (lv_sub hl [6, 7, 2, 1, 0] rfl)
            · have hf := iff_ c8 hf
              refine lv_iload hx hb dX1_victim_64 (lv_at hl 1 rfl) ?_
              refine lv_iload_n hx hb dX1_victim_66 rfl (lv_at hl 5 rfl) ?_
              refine lv_icmp_ne (tgt := 90) hx hb dX1_victim_67 (by decide) (fun c10 => ?_) (fun c10 => ?_)
              · have hf := iff_ c10 hf
                refine lv_iconst (v := zI 0) hx hb dX1_victim_90 (by decide) ?_
                refine lv_istore (lv' := [(7, .int (zI 0)), (6, .int (zI 0)), (5, .int z5.1), (0, .ref (a 1)), (1, .int x1), (2, .int x2), (3, .int x3), (4, .int x4)]) hx hb dX1_victim_91 hl (by decide) rfl (fun ls hl => ?_)
                refine lv_iload_n hx hb dX1_victim_93 rfl (lv_at hl 5 rfl) ?_
                refine lv_iconst (v := zI (-1)) hx hb dX1_victim_94 (by decide) ?_
                refine lv_icmp_eq (tgt := 108) hx hb dX1_victim_95 (by decide) (fun c11 => absurd c11 c8) (fun c11 => ?_)
                refine lv_iload hx hb dX1_victim_98 (lv_at hl 1 rfl) ?_
                refine lv_if_ne (tgt := 108) hx hb dX1_victim_100 (by decide) (fun c12 => absurd (by decide) c12) (fun c12 => ?_)
                refine lv_iload hx hb dX1_victim_103 (lv_at hl 0 rfl) ?_
                refine lv_if_eq (tgt := 114) hx hb dX1_victim_105 (by decide) (fun c13 => ?_) (fun c13 => absurd (by decide) c13)
                refine lv_iinc (v := x4 + (zI 1)) (lv' := [(4, .int (x4 + (zI 1))), (7, .int (zI 0)), (6, .int (zI 0)), (5, .int z5.1), (0, .ref (a 1)), (1, .int x1), (2, .int x2), (3, .int x3)]) hx hb dX1_victim_114 hl (k := 7) rfl rfl (by decide) rfl (fun ls hl => ?_)
                refine lv_goto (tgt := 7) hx hb dX1_victim_117 (by decide) ?_
                exact ih x1 x2 x3 (x4 + (zI 1)) z5.2 _ _ _ _ _ hf hP hD hS (lv_sub hl [4, 5, 6, 7, 0] rfl)
              · have hf := ift c10 hf
                refine lv_aload_n hx hb dX1_victim_70 rfl (lv_at hl 2 rfl) ?_
                refine va_get (D := D) (ci := 1) (v := .ref (a 8)) (C := RX1) (T := TX1) (N := 11) hx hb hts in_X1_victim_X1 hown hK hP 1 rfl rfl 6 (by decide) (hts _ (List.mem_of_getElem? (i := 3) rfl)) (fun _ h9 => h9) rfl dX1_victim_71 ?_
                refine lv_iload hx hb dX1_victim_74 (lv_at hl 6 rfl) ?_
                obtain ⟨g14, hf⟩ := vgs hf
                refine va_iald hx hb hK hP 8 5 rfl rfl g14 dX1_victim_76 ?_
                refine lv_aload_n hx hb dX1_victim_77 rfl (lv_at hl 2 rfl) ?_
                refine va_get (D := D) (ci := 1) (v := .ref (a 8)) (C := RX1) (T := TX1) (N := 11) hx hb hts in_X1_victim_X1 hown hK hP 1 rfl rfl 6 (by decide) (hts _ (List.mem_of_getElem? (i := 3) rfl)) (fun _ h9 => h9) rfl dX1_victim_78 ?_
                refine lv_iload_n hx hb dX1_victim_81 rfl (lv_at hl 4 rfl) ?_
                obtain ⟨g15, hf⟩ := vgs hf
                refine va_iald hx hb hK hP 8 5 rfl rfl g15 dX1_victim_82 ?_
                refine lv_icmp_ge (tgt := 90) hx hb dX1_victim_83 (by decide) (fun c16 => ?_) (fun c16 => ?_)
                · have hf := ift c16 hf
                  refine lv_iconst (v := zI 0) hx hb dX1_victim_90 (by decide) ?_
                  refine lv_istore (lv' := [(7, .int (zI 0)), (6, .int (zI 0)), (5, .int z5.1), (0, .ref (a 1)), (1, .int x1), (2, .int x2), (3, .int x3), (4, .int x4)]) hx hb dX1_victim_91 hl (by decide) rfl (fun ls hl => ?_)
                  refine lv_iload_n hx hb dX1_victim_93 rfl (lv_at hl 5 rfl) ?_
                  refine lv_iconst (v := zI (-1)) hx hb dX1_victim_94 (by decide) ?_
                  refine lv_icmp_eq (tgt := 108) hx hb dX1_victim_95 (by decide) (fun c17 => absurd c17 c8) (fun c17 => ?_)
                  refine lv_iload hx hb dX1_victim_98 (lv_at hl 1 rfl) ?_
                  refine lv_if_ne (tgt := 108) hx hb dX1_victim_100 (by decide) (fun c18 => absurd (by decide) c18) (fun c18 => ?_)
                  refine lv_iload hx hb dX1_victim_103 (lv_at hl 0 rfl) ?_
                  refine lv_if_eq (tgt := 114) hx hb dX1_victim_105 (by decide) (fun c19 => ?_) (fun c19 => absurd (by decide) c19)
                  refine lv_iinc (v := x4 + (zI 1)) (lv' := [(4, .int (x4 + (zI 1))), (7, .int (zI 0)), (6, .int (zI 0)), (5, .int z5.1), (0, .ref (a 1)), (1, .int x1), (2, .int x2), (3, .int x3)]) hx hb dX1_victim_114 hl (k := 7) rfl rfl (by decide) rfl (fun ls hl => ?_)
                  refine lv_goto (tgt := 7) hx hb dX1_victim_117 (by decide) ?_
                  exact ih x1 x2 x3 (x4 + (zI 1)) z5.2 _ _ _ _ _ hf hP hD hS (lv_sub hl [4, 5, 6, 7, 0] rfl)
                · have hf := iff_ c16 hf
                  refine lv_iconst (v := zI 1) hx hb dX1_victim_86 (by decide) ?_
                  refine lv_goto (tgt := 91) hx hb dX1_victim_87 (by decide) ?_
                  refine lv_istore (lv' := [(7, .int (zI 1)), (6, .int (zI 0)), (5, .int z5.1), (0, .ref (a 1)), (1, .int x1), (2, .int x2), (3, .int x3), (4, .int x4)]) hx hb dX1_victim_91 hl (by decide) rfl (fun ls hl => ?_)
                  refine lv_iload_n hx hb dX1_victim_93 rfl (lv_at hl 5 rfl) ?_
                  refine lv_iconst (v := zI (-1)) hx hb dX1_victim_94 (by decide) ?_
                  refine lv_icmp_eq (tgt := 108) hx hb dX1_victim_95 (by decide) (fun c20 => absurd c20 c8) (fun c20 => ?_)
                  refine lv_iload hx hb dX1_victim_98 (lv_at hl 1 rfl) ?_
                  refine lv_if_ne (tgt := 108) hx hb dX1_victim_100 (by decide) (fun c21 => absurd (by decide) c21) (fun c21 => ?_)
                  refine lv_iload hx hb dX1_victim_103 (lv_at hl 0 rfl) ?_
                  refine lv_if_eq (tgt := 114) hx hb dX1_victim_105 (by decide) (fun c22 => absurd c22 (by decide)) (fun c22 => ?_)
                  refine lv_iload hx hb dX1_victim_108 (lv_at hl 7 rfl) ?_
                  refine lv_istore_n (lv' := [(2, .int x4), (7, .int (zI 1)), (6, .int (zI 0)), (5, .int z5.1), (0, .ref (a 1)), (1, .int x1), (3, .int x3), (4, .int x4)]) hx hb dX1_victim_110 rfl hl (by decide) rfl (fun ls hl => ?_)
                  refine lv_iload hx hb dX1_victim_111 (lv_at hl 3 rfl) ?_
                  refine lv_istore_n (lv' := [(3, .int z5.1), (2, .int x4), (7, .int (zI 1)), (6, .int (zI 0)), (5, .int z5.1), (0, .ref (a 1)), (1, .int x1), (4, .int x4)]) hx hb dX1_victim_113 rfl hl (by decide) rfl (fun ls hl => ?_)
                  refine lv_iinc (v := x4 + (zI 1)) (lv' := [(4, .int (x4 + (zI 1))), (3, .int z5.1), (2, .int x4), (7, .int (zI 1)), (6, .int (zI 0)), (5, .int z5.1), (0, .ref (a 1)), (1, .int x1)]) hx hb dX1_victim_114 hl (k := 7) rfl rfl (by decide) rfl (fun ls hl => ?_)
                  refine lv_goto (tgt := 7) hx hb dX1_victim_117 (by decide) ?_
                  exact ih x1 x4 z5.1 (x4 + (zI 1)) z5.2 _ _ _ _ _ hf hP hD hS (lv_sub hl [6, 7, 2, 1, 0] rfl)
          · have hf := iff_ c7 hf
            refine lv_iconst (v := zI 1) hx hb dX1_victim_52 (by decide) ?_
            refine lv_goto (tgt := 57) hx hb dX1_victim_53 (by decide) ?_
            refine lv_istore (lv' := [(6, .int (zI 1)), (5, .int z5.1), (0, .ref (a 1)), (1, .int x1), (2, .int x2), (3, .int x3), (4, .int x4)]) hx hb dX1_victim_57 hl (by decide) rfl (fun ls hl => ?_)
            refine lv_iload_n hx hb dX1_victim_59 rfl (lv_at hl 4 rfl) ?_
            refine lv_iconst (v := zI (-1)) hx hb dX1_victim_60 (by decide) ?_
            refine lv_icmp_eq (tgt := 90) hx hb dX1_victim_61 (by decide) (fun c23 => ?_) (fun c23 => ?_)
            · have hf := ift c23 hf
              refine lv_iconst (v := zI 0) hx hb dX1_victim_90 (by decide) ?_
              refine lv_istore (lv' := [(7, .int (zI 0)), (6, .int (zI 1)), (5, .int z5.1), (0, .ref (a 1)), (1, .int x1), (2, .int x2), (3, .int x3), (4, .int x4)]) hx hb dX1_victim_91 hl (by decide) rfl (fun ls hl => ?_)
              refine lv_iload_n hx hb dX1_victim_93 rfl (lv_at hl 5 rfl) ?_
              refine lv_iconst (v := zI (-1)) hx hb dX1_victim_94 (by decide) ?_
              refine lv_icmp_eq (tgt := 108) hx hb dX1_victim_95 (by decide) (fun c24 => ?_) (fun c24 => absurd c23 c24)
              refine lv_iload hx hb dX1_victim_108 (lv_at hl 7 rfl) ?_
              refine lv_istore_n (lv' := [(2, .int x4), (7, .int (zI 0)), (6, .int (zI 1)), (5, .int z5.1), (0, .ref (a 1)), (1, .int x1), (3, .int x3), (4, .int x4)]) hx hb dX1_victim_110 rfl hl (by decide) rfl (fun ls hl => ?_)
              refine lv_iload hx hb dX1_victim_111 (lv_at hl 3 rfl) ?_
              refine lv_istore_n (lv' := [(3, .int z5.1), (2, .int x4), (7, .int (zI 0)), (6, .int (zI 1)), (5, .int z5.1), (0, .ref (a 1)), (1, .int x1), (4, .int x4)]) hx hb dX1_victim_113 rfl hl (by decide) rfl (fun ls hl => ?_)
              refine lv_iinc (v := x4 + (zI 1)) (lv' := [(4, .int (x4 + (zI 1))), (3, .int z5.1), (2, .int x4), (7, .int (zI 0)), (6, .int (zI 1)), (5, .int z5.1), (0, .ref (a 1)), (1, .int x1)]) hx hb dX1_victim_114 hl (k := 7) rfl rfl (by decide) rfl (fun ls hl => ?_)
              refine lv_goto (tgt := 7) hx hb dX1_victim_117 (by decide) ?_
              exact ih x1 x4 z5.1 (x4 + (zI 1)) z5.2 _ _ _ _ _ hf hP hD hS (lv_sub hl [6, 7, 2, 1, 0] rfl)
            · have hf := iff_ c23 hf
              refine lv_iload hx hb dX1_victim_64 (lv_at hl 1 rfl) ?_
              refine lv_iload_n hx hb dX1_victim_66 rfl (lv_at hl 5 rfl) ?_
              refine lv_icmp_ne (tgt := 90) hx hb dX1_victim_67 (by decide) (fun c25 => ?_) (fun c25 => ?_)
              · have hf := iff_ c25 hf
                refine lv_iconst (v := zI 0) hx hb dX1_victim_90 (by decide) ?_
                refine lv_istore (lv' := [(7, .int (zI 0)), (6, .int (zI 1)), (5, .int z5.1), (0, .ref (a 1)), (1, .int x1), (2, .int x2), (3, .int x3), (4, .int x4)]) hx hb dX1_victim_91 hl (by decide) rfl (fun ls hl => ?_)
                refine lv_iload_n hx hb dX1_victim_93 rfl (lv_at hl 5 rfl) ?_
                refine lv_iconst (v := zI (-1)) hx hb dX1_victim_94 (by decide) ?_
                refine lv_icmp_eq (tgt := 108) hx hb dX1_victim_95 (by decide) (fun c26 => absurd c26 c23) (fun c26 => ?_)
                refine lv_iload hx hb dX1_victim_98 (lv_at hl 1 rfl) ?_
                refine lv_if_ne (tgt := 108) hx hb dX1_victim_100 (by decide) (fun c27 => ?_) (fun c27 => absurd c27 (by decide))
                refine lv_iload hx hb dX1_victim_108 (lv_at hl 7 rfl) ?_
                refine lv_istore_n (lv' := [(2, .int x4), (7, .int (zI 0)), (6, .int (zI 1)), (5, .int z5.1), (0, .ref (a 1)), (1, .int x1), (3, .int x3), (4, .int x4)]) hx hb dX1_victim_110 rfl hl (by decide) rfl (fun ls hl => ?_)
                refine lv_iload hx hb dX1_victim_111 (lv_at hl 3 rfl) ?_
                refine lv_istore_n (lv' := [(3, .int z5.1), (2, .int x4), (7, .int (zI 0)), (6, .int (zI 1)), (5, .int z5.1), (0, .ref (a 1)), (1, .int x1), (4, .int x4)]) hx hb dX1_victim_113 rfl hl (by decide) rfl (fun ls hl => ?_)
                refine lv_iinc (v := x4 + (zI 1)) (lv' := [(4, .int (x4 + (zI 1))), (3, .int z5.1), (2, .int x4), (7, .int (zI 0)), (6, .int (zI 1)), (5, .int z5.1), (0, .ref (a 1)), (1, .int x1)]) hx hb dX1_victim_114 hl (k := 7) rfl rfl (by decide) rfl (fun ls hl => ?_)
                refine lv_goto (tgt := 7) hx hb dX1_victim_117 (by decide) ?_
                exact ih x1 x4 z5.1 (x4 + (zI 1)) z5.2 _ _ _ _ _ hf hP hD hS (lv_sub hl [6, 7, 2, 1, 0] rfl)
              · have hf := ift c25 hf
                refine lv_aload_n hx hb dX1_victim_70 rfl (lv_at hl 2 rfl) ?_
                refine va_get (D := D) (ci := 1) (v := .ref (a 8)) (C := RX1) (T := TX1) (N := 11) hx hb hts in_X1_victim_X1 hown hK hP 1 rfl rfl 6 (by decide) (hts _ (List.mem_of_getElem? (i := 3) rfl)) (fun _ h9 => h9) rfl dX1_victim_71 ?_
                refine lv_iload hx hb dX1_victim_74 (lv_at hl 6 rfl) ?_
                obtain ⟨g28, hf⟩ := vgs hf
                refine va_iald hx hb hK hP 8 5 rfl rfl g28 dX1_victim_76 ?_
                refine lv_aload_n hx hb dX1_victim_77 rfl (lv_at hl 2 rfl) ?_
                refine va_get (D := D) (ci := 1) (v := .ref (a 8)) (C := RX1) (T := TX1) (N := 11) hx hb hts in_X1_victim_X1 hown hK hP 1 rfl rfl 6 (by decide) (hts _ (List.mem_of_getElem? (i := 3) rfl)) (fun _ h9 => h9) rfl dX1_victim_78 ?_
                refine lv_iload_n hx hb dX1_victim_81 rfl (lv_at hl 4 rfl) ?_
                obtain ⟨g29, hf⟩ := vgs hf
                refine va_iald hx hb hK hP 8 5 rfl rfl g29 dX1_victim_82 ?_
                refine lv_icmp_ge (tgt := 90) hx hb dX1_victim_83 (by decide) (fun c30 => ?_) (fun c30 => ?_)
                · have hf := ift c30 hf
                  refine lv_iconst (v := zI 0) hx hb dX1_victim_90 (by decide) ?_
                  refine lv_istore (lv' := [(7, .int (zI 0)), (6, .int (zI 1)), (5, .int z5.1), (0, .ref (a 1)), (1, .int x1), (2, .int x2), (3, .int x3), (4, .int x4)]) hx hb dX1_victim_91 hl (by decide) rfl (fun ls hl => ?_)
                  refine lv_iload_n hx hb dX1_victim_93 rfl (lv_at hl 5 rfl) ?_
                  refine lv_iconst (v := zI (-1)) hx hb dX1_victim_94 (by decide) ?_
                  refine lv_icmp_eq (tgt := 108) hx hb dX1_victim_95 (by decide) (fun c31 => absurd c31 c23) (fun c31 => ?_)
                  refine lv_iload hx hb dX1_victim_98 (lv_at hl 1 rfl) ?_
                  refine lv_if_ne (tgt := 108) hx hb dX1_victim_100 (by decide) (fun c32 => ?_) (fun c32 => absurd c32 (by decide))
                  refine lv_iload hx hb dX1_victim_108 (lv_at hl 7 rfl) ?_
                  refine lv_istore_n (lv' := [(2, .int x4), (7, .int (zI 0)), (6, .int (zI 1)), (5, .int z5.1), (0, .ref (a 1)), (1, .int x1), (3, .int x3), (4, .int x4)]) hx hb dX1_victim_110 rfl hl (by decide) rfl (fun ls hl => ?_)
                  refine lv_iload hx hb dX1_victim_111 (lv_at hl 3 rfl) ?_
                  refine lv_istore_n (lv' := [(3, .int z5.1), (2, .int x4), (7, .int (zI 0)), (6, .int (zI 1)), (5, .int z5.1), (0, .ref (a 1)), (1, .int x1), (4, .int x4)]) hx hb dX1_victim_113 rfl hl (by decide) rfl (fun ls hl => ?_)
                  refine lv_iinc (v := x4 + (zI 1)) (lv' := [(4, .int (x4 + (zI 1))), (3, .int z5.1), (2, .int x4), (7, .int (zI 0)), (6, .int (zI 1)), (5, .int z5.1), (0, .ref (a 1)), (1, .int x1)]) hx hb dX1_victim_114 hl (k := 7) rfl rfl (by decide) rfl (fun ls hl => ?_)
                  refine lv_goto (tgt := 7) hx hb dX1_victim_117 (by decide) ?_
                  exact ih x1 x4 z5.1 (x4 + (zI 1)) z5.2 _ _ _ _ _ hf hP hD hS (lv_sub hl [6, 7, 2, 1, 0] rfl)
                · have hf := iff_ c30 hf
                  refine lv_iconst (v := zI 1) hx hb dX1_victim_86 (by decide) ?_
                  refine lv_goto (tgt := 91) hx hb dX1_victim_87 (by decide) ?_
                  refine lv_istore (lv' := [(7, .int (zI 1)), (6, .int (zI 1)), (5, .int z5.1), (0, .ref (a 1)), (1, .int x1), (2, .int x2), (3, .int x3), (4, .int x4)]) hx hb dX1_victim_91 hl (by decide) rfl (fun ls hl => ?_)
                  refine lv_iload_n hx hb dX1_victim_93 rfl (lv_at hl 5 rfl) ?_
                  refine lv_iconst (v := zI (-1)) hx hb dX1_victim_94 (by decide) ?_
                  refine lv_icmp_eq (tgt := 108) hx hb dX1_victim_95 (by decide) (fun c33 => absurd c33 c23) (fun c33 => ?_)
                  refine lv_iload hx hb dX1_victim_98 (lv_at hl 1 rfl) ?_
                  refine lv_if_ne (tgt := 108) hx hb dX1_victim_100 (by decide) (fun c34 => ?_) (fun c34 => absurd c34 (by decide))
                  refine lv_iload hx hb dX1_victim_108 (lv_at hl 7 rfl) ?_
                  refine lv_istore_n (lv' := [(2, .int x4), (7, .int (zI 1)), (6, .int (zI 1)), (5, .int z5.1), (0, .ref (a 1)), (1, .int x1), (3, .int x3), (4, .int x4)]) hx hb dX1_victim_110 rfl hl (by decide) rfl (fun ls hl => ?_)
                  refine lv_iload hx hb dX1_victim_111 (lv_at hl 3 rfl) ?_
                  refine lv_istore_n (lv' := [(3, .int z5.1), (2, .int x4), (7, .int (zI 1)), (6, .int (zI 1)), (5, .int z5.1), (0, .ref (a 1)), (1, .int x1), (4, .int x4)]) hx hb dX1_victim_113 rfl hl (by decide) rfl (fun ls hl => ?_)
                  refine lv_iinc (v := x4 + (zI 1)) (lv' := [(4, .int (x4 + (zI 1))), (3, .int z5.1), (2, .int x4), (7, .int (zI 1)), (6, .int (zI 1)), (5, .int z5.1), (0, .ref (a 1)), (1, .int x1)]) hx hb dX1_victim_114 hl (k := 7) rfl rfl (by decide) rfl (fun ls hl => ?_)
                  refine lv_goto (tgt := 7) hx hb dX1_victim_117 (by decide) ?_
                  exact ih x1 x4 z5.1 (x4 + (zI 1)) z5.2 _ _ _ _ _ hf hP hD hS (lv_sub hl [6, 7, 2, 1, 0] rfl)
        · have hf := iff_ c4 hf
          refine lv_iconst (v := zI 0) hx hb dX1_victim_34 (by decide) ?_
          refine lv_goto (tgt := 44) hx hb dX1_victim_35 (by decide) ?_
          refine lv_istore (lv' := [(5, .int (zI 0)), (0, .ref (a 1)), (1, .int x1), (2, .int x2), (3, .int x3), (4, .int x4)]) hx hb dX1_victim_44 hl (by decide) rfl (fun ls hl => ?_)
          refine lv_iload hx hb dX1_victim_46 (lv_at hl 0 rfl) ?_
          refine lv_iload_n hx hb dX1_victim_48 rfl (lv_at hl 4 rfl) ?_
          refine lv_icmp_ge (tgt := 56) hx hb dX1_victim_49 (by decide) (fun c35 => ?_) (fun c35 => ?_)
          · have hf := ift c35 hf
            refine lv_iconst (v := zI 0) hx hb dX1_victim_56 (by decide) ?_
            refine lv_istore (lv' := [(6, .int (zI 0)), (5, .int (zI 0)), (0, .ref (a 1)), (1, .int x1), (2, .int x2), (3, .int x3), (4, .int x4)]) hx hb dX1_victim_57 hl (by decide) rfl (fun ls hl => ?_)
            refine lv_iload_n hx hb dX1_victim_59 rfl (lv_at hl 4 rfl) ?_
            refine lv_iconst (v := zI (-1)) hx hb dX1_victim_60 (by decide) ?_
            refine lv_icmp_eq (tgt := 90) hx hb dX1_victim_61 (by decide) (fun c36 => ?_) (fun c36 => ?_)
            · have hf := ift c36 hf
              refine lv_iconst (v := zI 0) hx hb dX1_victim_90 (by decide) ?_
              refine lv_istore (lv' := [(7, .int (zI 0)), (6, .int (zI 0)), (5, .int (zI 0)), (0, .ref (a 1)), (1, .int x1), (2, .int x2), (3, .int x3), (4, .int x4)]) hx hb dX1_victim_91 hl (by decide) rfl (fun ls hl => ?_)
              refine lv_iload_n hx hb dX1_victim_93 rfl (lv_at hl 5 rfl) ?_
              refine lv_iconst (v := zI (-1)) hx hb dX1_victim_94 (by decide) ?_
              refine lv_icmp_eq (tgt := 108) hx hb dX1_victim_95 (by decide) (fun c37 => ?_) (fun c37 => absurd c36 c37)
              refine lv_iload hx hb dX1_victim_108 (lv_at hl 7 rfl) ?_
              refine lv_istore_n (lv' := [(2, .int x4), (7, .int (zI 0)), (6, .int (zI 0)), (5, .int (zI 0)), (0, .ref (a 1)), (1, .int x1), (3, .int x3), (4, .int x4)]) hx hb dX1_victim_110 rfl hl (by decide) rfl (fun ls hl => ?_)
              refine lv_iload hx hb dX1_victim_111 (lv_at hl 3 rfl) ?_
              refine lv_istore_n (lv' := [(3, .int (zI 0)), (2, .int x4), (7, .int (zI 0)), (6, .int (zI 0)), (5, .int (zI 0)), (0, .ref (a 1)), (1, .int x1), (4, .int x4)]) hx hb dX1_victim_113 rfl hl (by decide) rfl (fun ls hl => ?_)
              refine lv_iinc (v := x4 + (zI 1)) (lv' := [(4, .int (x4 + (zI 1))), (3, .int (zI 0)), (2, .int x4), (7, .int (zI 0)), (6, .int (zI 0)), (5, .int (zI 0)), (0, .ref (a 1)), (1, .int x1)]) hx hb dX1_victim_114 hl (k := 7) rfl rfl (by decide) rfl (fun ls hl => ?_)
              refine lv_goto (tgt := 7) hx hb dX1_victim_117 (by decide) ?_
              exact ih x1 x4 (zI 0) (x4 + (zI 1)) u _ _ _ _ _ hf hP hD hS (lv_sub hl [6, 7, 2, 1, 0] rfl)
            · have hf := iff_ c36 hf
              refine lv_iload hx hb dX1_victim_64 (lv_at hl 1 rfl) ?_
              refine lv_iload_n hx hb dX1_victim_66 rfl (lv_at hl 5 rfl) ?_
              refine lv_icmp_ne (tgt := 90) hx hb dX1_victim_67 (by decide) (fun c38 => ?_) (fun c38 => ?_)
              · have hf := iff_ c38 hf
                refine lv_iconst (v := zI 0) hx hb dX1_victim_90 (by decide) ?_
                refine lv_istore (lv' := [(7, .int (zI 0)), (6, .int (zI 0)), (5, .int (zI 0)), (0, .ref (a 1)), (1, .int x1), (2, .int x2), (3, .int x3), (4, .int x4)]) hx hb dX1_victim_91 hl (by decide) rfl (fun ls hl => ?_)
                refine lv_iload_n hx hb dX1_victim_93 rfl (lv_at hl 5 rfl) ?_
                refine lv_iconst (v := zI (-1)) hx hb dX1_victim_94 (by decide) ?_
                refine lv_icmp_eq (tgt := 108) hx hb dX1_victim_95 (by decide) (fun c39 => absurd c39 c36) (fun c39 => ?_)
                refine lv_iload hx hb dX1_victim_98 (lv_at hl 1 rfl) ?_
                refine lv_if_ne (tgt := 108) hx hb dX1_victim_100 (by decide) (fun c40 => absurd (by decide) c40) (fun c40 => ?_)
                refine lv_iload hx hb dX1_victim_103 (lv_at hl 0 rfl) ?_
                refine lv_if_eq (tgt := 114) hx hb dX1_victim_105 (by decide) (fun c41 => ?_) (fun c41 => absurd (by decide) c41)
                refine lv_iinc (v := x4 + (zI 1)) (lv' := [(4, .int (x4 + (zI 1))), (7, .int (zI 0)), (6, .int (zI 0)), (5, .int (zI 0)), (0, .ref (a 1)), (1, .int x1), (2, .int x2), (3, .int x3)]) hx hb dX1_victim_114 hl (k := 7) rfl rfl (by decide) rfl (fun ls hl => ?_)
                refine lv_goto (tgt := 7) hx hb dX1_victim_117 (by decide) ?_
                exact ih x1 x2 x3 (x4 + (zI 1)) u _ _ _ _ _ hf hP hD hS (lv_sub hl [4, 5, 6, 7, 0] rfl)
              · have hf := ift c38 hf
                refine lv_aload_n hx hb dX1_victim_70 rfl (lv_at hl 2 rfl) ?_
                refine va_get (D := D) (ci := 1) (v := .ref (a 8)) (C := RX1) (T := TX1) (N := 11) hx hb hts in_X1_victim_X1 hown hK hP 1 rfl rfl 6 (by decide) (hts _ (List.mem_of_getElem? (i := 3) rfl)) (fun _ h9 => h9) rfl dX1_victim_71 ?_
                refine lv_iload hx hb dX1_victim_74 (lv_at hl 6 rfl) ?_
                obtain ⟨g42, hf⟩ := vgs hf
                refine va_iald hx hb hK hP 8 5 rfl rfl g42 dX1_victim_76 ?_
                refine lv_aload_n hx hb dX1_victim_77 rfl (lv_at hl 2 rfl) ?_
                refine va_get (D := D) (ci := 1) (v := .ref (a 8)) (C := RX1) (T := TX1) (N := 11) hx hb hts in_X1_victim_X1 hown hK hP 1 rfl rfl 6 (by decide) (hts _ (List.mem_of_getElem? (i := 3) rfl)) (fun _ h9 => h9) rfl dX1_victim_78 ?_
                refine lv_iload_n hx hb dX1_victim_81 rfl (lv_at hl 4 rfl) ?_
                obtain ⟨g43, hf⟩ := vgs hf
                refine va_iald hx hb hK hP 8 5 rfl rfl g43 dX1_victim_82 ?_
                refine lv_icmp_ge (tgt := 90) hx hb dX1_victim_83 (by decide) (fun c44 => ?_) (fun c44 => ?_)
                · have hf := ift c44 hf
                  refine lv_iconst (v := zI 0) hx hb dX1_victim_90 (by decide) ?_
                  refine lv_istore (lv' := [(7, .int (zI 0)), (6, .int (zI 0)), (5, .int (zI 0)), (0, .ref (a 1)), (1, .int x1), (2, .int x2), (3, .int x3), (4, .int x4)]) hx hb dX1_victim_91 hl (by decide) rfl (fun ls hl => ?_)
                  refine lv_iload_n hx hb dX1_victim_93 rfl (lv_at hl 5 rfl) ?_
                  refine lv_iconst (v := zI (-1)) hx hb dX1_victim_94 (by decide) ?_
                  refine lv_icmp_eq (tgt := 108) hx hb dX1_victim_95 (by decide) (fun c45 => absurd c45 c36) (fun c45 => ?_)
                  refine lv_iload hx hb dX1_victim_98 (lv_at hl 1 rfl) ?_
                  refine lv_if_ne (tgt := 108) hx hb dX1_victim_100 (by decide) (fun c46 => absurd (by decide) c46) (fun c46 => ?_)
                  refine lv_iload hx hb dX1_victim_103 (lv_at hl 0 rfl) ?_
                  refine lv_if_eq (tgt := 114) hx hb dX1_victim_105 (by decide) (fun c47 => ?_) (fun c47 => absurd (by decide) c47)
                  refine lv_iinc (v := x4 + (zI 1)) (lv' := [(4, .int (x4 + (zI 1))), (7, .int (zI 0)), (6, .int (zI 0)), (5, .int (zI 0)), (0, .ref (a 1)), (1, .int x1), (2, .int x2), (3, .int x3)]) hx hb dX1_victim_114 hl (k := 7) rfl rfl (by decide) rfl (fun ls hl => ?_)
                  refine lv_goto (tgt := 7) hx hb dX1_victim_117 (by decide) ?_
                  exact ih x1 x2 x3 (x4 + (zI 1)) u _ _ _ _ _ hf hP hD hS (lv_sub hl [4, 5, 6, 7, 0] rfl)
                · have hf := iff_ c44 hf
                  refine lv_iconst (v := zI 1) hx hb dX1_victim_86 (by decide) ?_
                  refine lv_goto (tgt := 91) hx hb dX1_victim_87 (by decide) ?_
                  refine lv_istore (lv' := [(7, .int (zI 1)), (6, .int (zI 0)), (5, .int (zI 0)), (0, .ref (a 1)), (1, .int x1), (2, .int x2), (3, .int x3), (4, .int x4)]) hx hb dX1_victim_91 hl (by decide) rfl (fun ls hl => ?_)
                  refine lv_iload_n hx hb dX1_victim_93 rfl (lv_at hl 5 rfl) ?_
                  refine lv_iconst (v := zI (-1)) hx hb dX1_victim_94 (by decide) ?_
                  refine lv_icmp_eq (tgt := 108) hx hb dX1_victim_95 (by decide) (fun c48 => absurd c48 c36) (fun c48 => ?_)
                  refine lv_iload hx hb dX1_victim_98 (lv_at hl 1 rfl) ?_
                  refine lv_if_ne (tgt := 108) hx hb dX1_victim_100 (by decide) (fun c49 => absurd (by decide) c49) (fun c49 => ?_)
                  refine lv_iload hx hb dX1_victim_103 (lv_at hl 0 rfl) ?_
                  refine lv_if_eq (tgt := 114) hx hb dX1_victim_105 (by decide) (fun c50 => absurd c50 (by decide)) (fun c50 => ?_)
                  refine lv_iload hx hb dX1_victim_108 (lv_at hl 7 rfl) ?_
                  refine lv_istore_n (lv' := [(2, .int x4), (7, .int (zI 1)), (6, .int (zI 0)), (5, .int (zI 0)), (0, .ref (a 1)), (1, .int x1), (3, .int x3), (4, .int x4)]) hx hb dX1_victim_110 rfl hl (by decide) rfl (fun ls hl => ?_)
                  refine lv_iload hx hb dX1_victim_111 (lv_at hl 3 rfl) ?_
                  refine lv_istore_n (lv' := [(3, .int (zI 0)), (2, .int x4), (7, .int (zI 1)), (6, .int (zI 0)), (5, .int (zI 0)), (0, .ref (a 1)), (1, .int x1), (4, .int x4)]) hx hb dX1_victim_113 rfl hl (by decide) rfl (fun ls hl => ?_)
                  refine lv_iinc (v := x4 + (zI 1)) (lv' := [(4, .int (x4 + (zI 1))), (3, .int (zI 0)), (2, .int x4), (7, .int (zI 1)), (6, .int (zI 0)), (5, .int (zI 0)), (0, .ref (a 1)), (1, .int x1)]) hx hb dX1_victim_114 hl (k := 7) rfl rfl (by decide) rfl (fun ls hl => ?_)
                  refine lv_goto (tgt := 7) hx hb dX1_victim_117 (by decide) ?_
                  exact ih x1 x4 (zI 0) (x4 + (zI 1)) u _ _ _ _ _ hf hP hD hS (lv_sub hl [6, 7, 2, 1, 0] rfl)
          · have hf := iff_ c35 hf
            refine lv_iconst (v := zI 1) hx hb dX1_victim_52 (by decide) ?_
            refine lv_goto (tgt := 57) hx hb dX1_victim_53 (by decide) ?_
            refine lv_istore (lv' := [(6, .int (zI 1)), (5, .int (zI 0)), (0, .ref (a 1)), (1, .int x1), (2, .int x2), (3, .int x3), (4, .int x4)]) hx hb dX1_victim_57 hl (by decide) rfl (fun ls hl => ?_)
            refine lv_iload_n hx hb dX1_victim_59 rfl (lv_at hl 4 rfl) ?_
            refine lv_iconst (v := zI (-1)) hx hb dX1_victim_60 (by decide) ?_
            refine lv_icmp_eq (tgt := 90) hx hb dX1_victim_61 (by decide) (fun c51 => ?_) (fun c51 => ?_)
            · have hf := ift c51 hf
              refine lv_iconst (v := zI 0) hx hb dX1_victim_90 (by decide) ?_
              refine lv_istore (lv' := [(7, .int (zI 0)), (6, .int (zI 1)), (5, .int (zI 0)), (0, .ref (a 1)), (1, .int x1), (2, .int x2), (3, .int x3), (4, .int x4)]) hx hb dX1_victim_91 hl (by decide) rfl (fun ls hl => ?_)
              refine lv_iload_n hx hb dX1_victim_93 rfl (lv_at hl 5 rfl) ?_
              refine lv_iconst (v := zI (-1)) hx hb dX1_victim_94 (by decide) ?_
              refine lv_icmp_eq (tgt := 108) hx hb dX1_victim_95 (by decide) (fun c52 => ?_) (fun c52 => absurd c51 c52)
              refine lv_iload hx hb dX1_victim_108 (lv_at hl 7 rfl) ?_
              refine lv_istore_n (lv' := [(2, .int x4), (7, .int (zI 0)), (6, .int (zI 1)), (5, .int (zI 0)), (0, .ref (a 1)), (1, .int x1), (3, .int x3), (4, .int x4)]) hx hb dX1_victim_110 rfl hl (by decide) rfl (fun ls hl => ?_)
              refine lv_iload hx hb dX1_victim_111 (lv_at hl 3 rfl) ?_
              refine lv_istore_n (lv' := [(3, .int (zI 0)), (2, .int x4), (7, .int (zI 0)), (6, .int (zI 1)), (5, .int (zI 0)), (0, .ref (a 1)), (1, .int x1), (4, .int x4)]) hx hb dX1_victim_113 rfl hl (by decide) rfl (fun ls hl => ?_)
              refine lv_iinc (v := x4 + (zI 1)) (lv' := [(4, .int (x4 + (zI 1))), (3, .int (zI 0)), (2, .int x4), (7, .int (zI 0)), (6, .int (zI 1)), (5, .int (zI 0)), (0, .ref (a 1)), (1, .int x1)]) hx hb dX1_victim_114 hl (k := 7) rfl rfl (by decide) rfl (fun ls hl => ?_)
              refine lv_goto (tgt := 7) hx hb dX1_victim_117 (by decide) ?_
              exact ih x1 x4 (zI 0) (x4 + (zI 1)) u _ _ _ _ _ hf hP hD hS (lv_sub hl [6, 7, 2, 1, 0] rfl)
            · have hf := iff_ c51 hf
              refine lv_iload hx hb dX1_victim_64 (lv_at hl 1 rfl) ?_
              refine lv_iload_n hx hb dX1_victim_66 rfl (lv_at hl 5 rfl) ?_
              refine lv_icmp_ne (tgt := 90) hx hb dX1_victim_67 (by decide) (fun c53 => ?_) (fun c53 => ?_)
              · have hf := iff_ c53 hf
                refine lv_iconst (v := zI 0) hx hb dX1_victim_90 (by decide) ?_
                refine lv_istore (lv' := [(7, .int (zI 0)), (6, .int (zI 1)), (5, .int (zI 0)), (0, .ref (a 1)), (1, .int x1), (2, .int x2), (3, .int x3), (4, .int x4)]) hx hb dX1_victim_91 hl (by decide) rfl (fun ls hl => ?_)
                refine lv_iload_n hx hb dX1_victim_93 rfl (lv_at hl 5 rfl) ?_
                refine lv_iconst (v := zI (-1)) hx hb dX1_victim_94 (by decide) ?_
                refine lv_icmp_eq (tgt := 108) hx hb dX1_victim_95 (by decide) (fun c54 => absurd c54 c51) (fun c54 => ?_)
                refine lv_iload hx hb dX1_victim_98 (lv_at hl 1 rfl) ?_
                refine lv_if_ne (tgt := 108) hx hb dX1_victim_100 (by decide) (fun c55 => ?_) (fun c55 => absurd c55 (by decide))
                refine lv_iload hx hb dX1_victim_108 (lv_at hl 7 rfl) ?_
                refine lv_istore_n (lv' := [(2, .int x4), (7, .int (zI 0)), (6, .int (zI 1)), (5, .int (zI 0)), (0, .ref (a 1)), (1, .int x1), (3, .int x3), (4, .int x4)]) hx hb dX1_victim_110 rfl hl (by decide) rfl (fun ls hl => ?_)
                refine lv_iload hx hb dX1_victim_111 (lv_at hl 3 rfl) ?_
                refine lv_istore_n (lv' := [(3, .int (zI 0)), (2, .int x4), (7, .int (zI 0)), (6, .int (zI 1)), (5, .int (zI 0)), (0, .ref (a 1)), (1, .int x1), (4, .int x4)]) hx hb dX1_victim_113 rfl hl (by decide) rfl (fun ls hl => ?_)
                refine lv_iinc (v := x4 + (zI 1)) (lv' := [(4, .int (x4 + (zI 1))), (3, .int (zI 0)), (2, .int x4), (7, .int (zI 0)), (6, .int (zI 1)), (5, .int (zI 0)), (0, .ref (a 1)), (1, .int x1)]) hx hb dX1_victim_114 hl (k := 7) rfl rfl (by decide) rfl (fun ls hl => ?_)
                refine lv_goto (tgt := 7) hx hb dX1_victim_117 (by decide) ?_
                exact ih x1 x4 (zI 0) (x4 + (zI 1)) u _ _ _ _ _ hf hP hD hS (lv_sub hl [6, 7, 2, 1, 0] rfl)
              · have hf := ift c53 hf
                refine lv_aload_n hx hb dX1_victim_70 rfl (lv_at hl 2 rfl) ?_
                refine va_get (D := D) (ci := 1) (v := .ref (a 8)) (C := RX1) (T := TX1) (N := 11) hx hb hts in_X1_victim_X1 hown hK hP 1 rfl rfl 6 (by decide) (hts _ (List.mem_of_getElem? (i := 3) rfl)) (fun _ h9 => h9) rfl dX1_victim_71 ?_
                refine lv_iload hx hb dX1_victim_74 (lv_at hl 6 rfl) ?_
                obtain ⟨g56, hf⟩ := vgs hf
                refine va_iald hx hb hK hP 8 5 rfl rfl g56 dX1_victim_76 ?_
                refine lv_aload_n hx hb dX1_victim_77 rfl (lv_at hl 2 rfl) ?_
                refine va_get (D := D) (ci := 1) (v := .ref (a 8)) (C := RX1) (T := TX1) (N := 11) hx hb hts in_X1_victim_X1 hown hK hP 1 rfl rfl 6 (by decide) (hts _ (List.mem_of_getElem? (i := 3) rfl)) (fun _ h9 => h9) rfl dX1_victim_78 ?_
                refine lv_iload_n hx hb dX1_victim_81 rfl (lv_at hl 4 rfl) ?_
                obtain ⟨g57, hf⟩ := vgs hf
                refine va_iald hx hb hK hP 8 5 rfl rfl g57 dX1_victim_82 ?_
                refine lv_icmp_ge (tgt := 90) hx hb dX1_victim_83 (by decide) (fun c58 => ?_) (fun c58 => ?_)
                · have hf := ift c58 hf
                  refine lv_iconst (v := zI 0) hx hb dX1_victim_90 (by decide) ?_
                  refine lv_istore (lv' := [(7, .int (zI 0)), (6, .int (zI 1)), (5, .int (zI 0)), (0, .ref (a 1)), (1, .int x1), (2, .int x2), (3, .int x3), (4, .int x4)]) hx hb dX1_victim_91 hl (by decide) rfl (fun ls hl => ?_)
                  refine lv_iload_n hx hb dX1_victim_93 rfl (lv_at hl 5 rfl) ?_
                  refine lv_iconst (v := zI (-1)) hx hb dX1_victim_94 (by decide) ?_
                  refine lv_icmp_eq (tgt := 108) hx hb dX1_victim_95 (by decide) (fun c59 => absurd c59 c51) (fun c59 => ?_)
                  refine lv_iload hx hb dX1_victim_98 (lv_at hl 1 rfl) ?_
                  refine lv_if_ne (tgt := 108) hx hb dX1_victim_100 (by decide) (fun c60 => ?_) (fun c60 => absurd c60 (by decide))
                  refine lv_iload hx hb dX1_victim_108 (lv_at hl 7 rfl) ?_
                  refine lv_istore_n (lv' := [(2, .int x4), (7, .int (zI 0)), (6, .int (zI 1)), (5, .int (zI 0)), (0, .ref (a 1)), (1, .int x1), (3, .int x3), (4, .int x4)]) hx hb dX1_victim_110 rfl hl (by decide) rfl (fun ls hl => ?_)
                  refine lv_iload hx hb dX1_victim_111 (lv_at hl 3 rfl) ?_
                  refine lv_istore_n (lv' := [(3, .int (zI 0)), (2, .int x4), (7, .int (zI 0)), (6, .int (zI 1)), (5, .int (zI 0)), (0, .ref (a 1)), (1, .int x1), (4, .int x4)]) hx hb dX1_victim_113 rfl hl (by decide) rfl (fun ls hl => ?_)
                  refine lv_iinc (v := x4 + (zI 1)) (lv' := [(4, .int (x4 + (zI 1))), (3, .int (zI 0)), (2, .int x4), (7, .int (zI 0)), (6, .int (zI 1)), (5, .int (zI 0)), (0, .ref (a 1)), (1, .int x1)]) hx hb dX1_victim_114 hl (k := 7) rfl rfl (by decide) rfl (fun ls hl => ?_)
                  refine lv_goto (tgt := 7) hx hb dX1_victim_117 (by decide) ?_
                  exact ih x1 x4 (zI 0) (x4 + (zI 1)) u _ _ _ _ _ hf hP hD hS (lv_sub hl [6, 7, 2, 1, 0] rfl)
                · have hf := iff_ c58 hf
                  refine lv_iconst (v := zI 1) hx hb dX1_victim_86 (by decide) ?_
                  refine lv_goto (tgt := 91) hx hb dX1_victim_87 (by decide) ?_
                  refine lv_istore (lv' := [(7, .int (zI 1)), (6, .int (zI 1)), (5, .int (zI 0)), (0, .ref (a 1)), (1, .int x1), (2, .int x2), (3, .int x3), (4, .int x4)]) hx hb dX1_victim_91 hl (by decide) rfl (fun ls hl => ?_)
                  refine lv_iload_n hx hb dX1_victim_93 rfl (lv_at hl 5 rfl) ?_
                  refine lv_iconst (v := zI (-1)) hx hb dX1_victim_94 (by decide) ?_
                  refine lv_icmp_eq (tgt := 108) hx hb dX1_victim_95 (by decide) (fun c61 => absurd c61 c51) (fun c61 => ?_)
                  refine lv_iload hx hb dX1_victim_98 (lv_at hl 1 rfl) ?_
                  refine lv_if_ne (tgt := 108) hx hb dX1_victim_100 (by decide) (fun c62 => ?_) (fun c62 => absurd c62 (by decide))
                  refine lv_iload hx hb dX1_victim_108 (lv_at hl 7 rfl) ?_
                  refine lv_istore_n (lv' := [(2, .int x4), (7, .int (zI 1)), (6, .int (zI 1)), (5, .int (zI 0)), (0, .ref (a 1)), (1, .int x1), (3, .int x3), (4, .int x4)]) hx hb dX1_victim_110 rfl hl (by decide) rfl (fun ls hl => ?_)
                  refine lv_iload hx hb dX1_victim_111 (lv_at hl 3 rfl) ?_
                  refine lv_istore_n (lv' := [(3, .int (zI 0)), (2, .int x4), (7, .int (zI 1)), (6, .int (zI 1)), (5, .int (zI 0)), (0, .ref (a 1)), (1, .int x1), (4, .int x4)]) hx hb dX1_victim_113 rfl hl (by decide) rfl (fun ls hl => ?_)
                  refine lv_iinc (v := x4 + (zI 1)) (lv' := [(4, .int (x4 + (zI 1))), (3, .int (zI 0)), (2, .int x4), (7, .int (zI 1)), (6, .int (zI 1)), (5, .int (zI 0)), (0, .ref (a 1)), (1, .int x1)]) hx hb dX1_victim_114 hl (k := 7) rfl rfl (by decide) rfl (fun ls hl => ?_)
                  refine lv_goto (tgt := 7) hx hb dX1_victim_117 (by decide) ?_
                  exact ih x1 x4 (zI 0) (x4 + (zI 1)) u _ _ _ _ _ hf hP hD hS (lv_sub hl [6, 7, 2, 1, 0] rfl)
      · have hf := iff_ c3 hf
        refine lv_goto (tgt := 114) hx hb dX1_victim_27 (by decide) ?_
        refine lv_iinc (v := x4 + (zI 1)) (lv' := [(4, .int (x4 + (zI 1))), (0, .ref (a 1)), (1, .int x1), (2, .int x2), (3, .int x3)]) hx hb dX1_victim_114 hl (k := 4) rfl rfl (by decide) rfl (fun ls hl => ?_)
        refine lv_goto (tgt := 7) hx hb dX1_victim_117 (by decide) ?_
        exact ih x1 x2 x3 (x4 + (zI 1)) u _ _ _ _ _ hf hP hD hS (lv_sub hl [1, 2, 3, 4, 0] rfl)
set_option maxHeartbeats 4000000 in
set_option maxRecDepth 100000 in
theorem lbX1_victim_e {K : Nat} (X : vzX D (XT cA) A wsX1_victim cX1_victim 8 (some .int) RX1 p s m args meth c) : ∀ (x1 : Int32) (u : XU) (H : Heap) (locs : List Loc) (ls : Array Slot) (r : Int32) (u2 : XU), fX1_victim n K x1 u = some (r, u2) → va_P D vwCl (XW a n cA u) H → va_D A (XW a n cA u) → va_S A s.heap H locs → lv_has ls 8 [(0, .ref (a 1)), (1, .int x1)] → W p l e (headSpec wsX1_victim rmX1_victim).room s m args below meth c H locs 0 0 (MQ below (vzQ D (XT cA) (XW a n cA) A r u2) args s 0 0 A) (F0 m 0 ls []) := by
  obtain ⟨hx, hb, hr, hml, hown, hts, hlk, hN, hK, hA⟩ := id X
  intro x1 u H locs ls r u2 hf hP hD hS hl
  unfold fX1_victim at hf
  refine lv_iconst (v := zI (-1)) hx hb dX1_victim_0 (by decide) ?_
  refine lv_istore_n (lv' := [(2, .int (zI (-1))), (0, .ref (a 1)), (1, .int x1)]) hx hb dX1_victim_1 rfl hl (by decide) rfl (fun ls hl => ?_)
  refine lv_iconst (v := zI 0) hx hb dX1_victim_2 (by decide) ?_
  refine lv_istore_n (lv' := [(3, .int (zI 0)), (2, .int (zI (-1))), (0, .ref (a 1)), (1, .int x1)]) hx hb dX1_victim_3 rfl hl (by decide) rfl (fun ls hl => ?_)
  refine lv_iconst (v := zI 0) hx hb dX1_victim_4 (by decide) ?_
  refine lv_istore (lv' := [(4, .int (zI 0)), (3, .int (zI 0)), (2, .int (zI (-1))), (0, .ref (a 1)), (1, .int x1)]) hx hb dX1_victim_5 hl (by decide) rfl (fun ls hl => ?_)
  exact lbX1_victim_7 X K x1 (zI (-1)) (zI 0) (zI 0) u _ _ _ _ _ hf hP hD hS (lv_sub hl [3, 4, 2, 1, 0] rfl)
end
theorem kX1_victim {l : Launch} {D : va_G} {a n : Nat → Nat} {cA : Nat → ClassId} {K : Nat} {x1 : Int32} {u : XU} {r : Int32} {u2 : XU} (h : fX1_victim n K x1 u = some (r, u2)) : vzC l D (XT cA) (XW a n cA) yX1_victim wsX1_victim rmX1_victim [.ref (a 1), .int x1] u r u2 := vzC.of (by decide) rfl (Nat.le_of_ble_eq_true rfl) (fun p e s m below meth c A ls X hP hD hl => lbX1_victim_e X x1 u s.heap [] ls r u2 h hP hD va_S.rf hl)
