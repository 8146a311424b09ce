abbrev rmX3_put : Room := { frames := 1, cells := 0, slots := 0, locals := 20 }
theorem in_X3_put_X3 : ∀ w ∈ u_ws RX3 TX3 16, w ∈ wsX3_put := fun _ h => List.mem_cons_of_mem _ (List.mem_append_right _ h)
def fX3_put_8 (n : Nat → Nat) (K : Nat) : Nat → Int32 → Int32 → Int32 → Int32 → MU → Option (Int32 × MU)
  | 0, _, _, _, _, _ => none
  | N + 1, x1, x2, x3, x4, u => if (((zI 4) * (mu_opn u)) + (zI 3)) ≤ x4 then ((fX3_operates n K u).bind fun z2 => (if z2.1 = 0 then (some (zI 0, z2.2)) else (vg x4 (n 1) (vg x4 (n 2) (vg x4 (n 4) (vg x4 (n 3) (some (zI 1, mu_s_nxt (mu_s_ser (mu_s_sor (mu_s_val (mu_s_sec z2.2 (upd (mu_sec z2.2) (x4).toNatClampNeg x1)) (upd (mu_val z2.2) (x4).toNatClampNeg x2)) (upd (mu_sor z2.2) (x4).toNatClampNeg x3)) (upd (mu_ser z2.2) (x4).toNatClampNeg (mu_nxt z2.2))) ((mu_nxt z2.2) + (zI 1)))))))))) else (vg x4 (n 1) (if ((mu_sec u) x4.toNatClampNeg) = (zI (-1)) then ((fX3_operates n K u).bind fun z11 => (if z11.1 = 0 then (some (zI 0, z11.2)) else (vg x4 (n 1) (vg x4 (n 2) (vg x4 (n 4) (vg x4 (n 3) (some (zI 1, mu_s_nxt (mu_s_ser (mu_s_sor (mu_s_val (mu_s_sec z11.2 (upd (mu_sec z11.2) (x4).toNatClampNeg x1)) (upd (mu_val z11.2) (x4).toNatClampNeg x2)) (upd (mu_sor z11.2) (x4).toNatClampNeg x3)) (upd (mu_ser z11.2) (x4).toNatClampNeg (mu_nxt z11.2))) ((mu_nxt z11.2) + (zI 1)))))))))) else (fX3_put_8 n K N x1 x2 x3 (x4 + (zI 1)) u)))
def fX3_put (n : Nat → Nat) (K : Nat) (x1 x2 x3 : Int32) (u : MU) : Option (Int32 × MU) := fX3_put_8 n K K x1 x2 x3 ((zI 4) * (mu_opn u)) u
section
variable {p : Program} {l : Launch} {e : Env} {s : State} {m : MethodId} {args : Array Value} {below : List Frame} {meth : Method} {c : Code} {D : va_G} {a n : Nat → Nat} {cA : Nat → ClassId} {A : Nat → Prop}
set_option maxHeartbeats 4000000 in
set_option maxRecDepth 100000 in
theorem lbX3_put_8 {K : Nat} (X : vzX D (MT cA) A wsX3_put cX3_put 5 (some .boolean) RX3 p s m args meth c) : ∀ (N : Nat) (x1 x2 x3 x4 : Int32) (u : MU) (H : Heap) (locs : List Loc) (ls : Array Slot) (r : Int32) (u2 : MU), fX3_put_8 n K N x1 x2 x3 x4 u = some (r, u2) → va_P D vwCl (MW a n cA u) H → va_D A (MW a n cA u) → va_S A s.heap H locs → lv_has ls 5 [(0, .ref (a 0)), (1, .int x1), (2, .int x2), (3, .int x3), (4, .int x4)] → W p l e (headSpec wsX3_put rmX3_put).room s m args below meth c H locs 0 0 (MQ below (vzQ D (MT cA) (MW a n cA) A r u2) args s 0 0 A) (F0 m 8 ls []) := by
  obtain ⟨hx, hb, hr, hml, hown, hts, hlk, hN, hK, hA⟩ := id X
  intro N
  induction N with
  | zero =>
    intro x1 x2 x3 x4 u H locs ls r u2 hf
    cases hf
  | succ N ih =>
    intro x1 x2 x3 x4 u H locs ls r u2 hf hP hD hS hl
    rw [fX3_put_8] at hf
    refine lv_iload hx hb dX3_put_8 (lv_at hl 4 rfl) ?_
    refine lv_iconst (v := zI 4) hx hb dX3_put_10 (by decide) ?_
    refine lv_aload_n hx hb dX3_put_11 rfl (lv_at hl 0 rfl) ?_
    refine va_get (D := D) (ci := 3) (v := .int (mu_opn u)) (C := RX3) (T := TX3) (N := 16) hx hb hts in_X3_put_X3 hown hK hP 0 rfl rfl 8 (by decide) (hts _ (List.mem_of_getElem? (i := 1) rfl)) (fun _ h9 => h9) rfl dX3_put_12 ?_
    refine lv_imul hx hb dX3_put_15 ?_
    refine lv_iconst (v := zI 3) hx hb dX3_put_16 (by decide) ?_
    refine lv_iadd hx hb dX3_put_17 ?_
    refine lv_icmp_ge (tgt := 38) hx hb dX3_put_18 (by decide) (fun c1 => ?_) (fun c1 => ?_)
    · have hf := ift c1 hf
      refine lv_aload_n hx hb dX3_put_38 rfl (lv_at hl 0 rfl) ?_
      obtain ⟨z2, hz3, hf⟩ := bd hf
      refine vz_call (rest := []) X (kX3_operates hz3) (cwV 0 hts gX3_put_X3_operates rfl rfl rfl (by decide +kernel) ⟨Nat.le_of_ble_eq_true rfl, Nat.le_of_ble_eq_true rfl⟩) 0 3 rfl rfl rfl hl.1 rfl (Nat.le_of_ble_eq_true rfl) dX3_put_39 ⟨Nat.zero_le _, Nat.zero_le _⟩ hP hD hS (fun H locs hP hD hS => ?_)
      refine lv_if_ne (tgt := 47) hx hb dX3_put_42 (by decide) (fun c4 => ?_) (fun c4 => ?_)
      · have hf := iff_ c4 hf
        refine lv_aload_n hx hb dX3_put_47 rfl (lv_at hl 0 rfl) ?_
        refine va_get (D := D) (ci := 3) (v := .ref (a 1)) (C := RX3) (T := TX3) (N := 16) hx hb hts in_X3_put_X3 hown hK hP 0 rfl rfl 2 (by decide) (hts _ (List.mem_of_getElem? (i := 2) rfl)) (fun _ h9 => h9) rfl dX3_put_48 ?_
        refine lv_iload hx hb dX3_put_51 (lv_at hl 4 rfl) ?_
        refine lv_iload_n hx hb dX3_put_53 rfl (lv_at hl 1 rfl) ?_
        obtain ⟨g5, hf⟩ := vgs hf
        refine va_iast hx hb hK hP hD hS 1 0 rfl rfl g5 dX3_put_54 (fun H locs hP hD hS => ?_)
        have hP : va_P D vwCl (MW a n cA (mu_s_sec z2.2 (upd (mu_sec z2.2) (x4).toNatClampNeg x1))) H := hP
        have hD : va_D A (MW a n cA (mu_s_sec z2.2 (upd (mu_sec z2.2) (x4).toNatClampNeg x1))) := hD
        refine lv_aload_n hx hb dX3_put_55 rfl (lv_at hl 0 rfl) ?_
        refine va_get (D := D) (ci := 3) (v := .ref (a 2)) (C := RX3) (T := TX3) (N := 16) hx hb hts in_X3_put_X3 hown hK hP 0 rfl rfl 3 (by decide) (hts _ (List.mem_of_getElem? (i := 3) rfl)) (fun _ h9 => h9) rfl dX3_put_56 ?_
        refine lv_iload hx hb dX3_put_59 (lv_at hl 4 rfl) ?_
        refine lv_iload_n hx hb dX3_put_61 rfl (lv_at hl 2 rfl) ?_
        obtain ⟨g6, hf⟩ := vgs hf
        refine va_iast hx hb hK hP hD hS 2 1 rfl rfl g6 dX3_put_62 (fun H locs hP hD hS => ?_)
        have hP : va_P D vwCl (MW a n cA (mu_s_val (mu_s_sec z2.2 (upd (mu_sec z2.2) (x4).toNatClampNeg x1)) (upd (mu_val z2.2) (x4).toNatClampNeg x2))) H := hP
        have hD : va_D A (MW a n cA (mu_s_val (mu_s_sec z2.2 (upd (mu_sec z2.2) (x4).toNatClampNeg x1)) (upd (mu_val z2.2) (x4).toNatClampNeg x2))) := hD
        refine lv_aload_n hx hb dX3_put_63 rfl (lv_at hl 0 rfl) ?_
        refine va_get (D := D) (ci := 3) (v := .ref (a 4)) (C := RX3) (T := TX3) (N := 16) hx hb hts in_X3_put_X3 hown hK hP 0 rfl rfl 5 (by decide) (hts _ (List.mem_of_getElem? (i := 4) rfl)) (fun _ h9 => h9) rfl dX3_put_64 ?_
        refine lv_iload hx hb dX3_put_67 (lv_at hl 4 rfl) ?_
        refine lv_iload_n hx hb dX3_put_69 rfl (lv_at hl 3 rfl) ?_
        obtain ⟨g7, hf⟩ := vgs hf
        refine va_iast hx hb hK hP hD hS 4 3 rfl rfl g7 dX3_put_70 (fun H locs hP hD hS => ?_)
        have hP : va_P D vwCl (MW a n cA (mu_s_sor (mu_s_val (mu_s_sec z2.2 (upd (mu_sec z2.2) (x4).toNatClampNeg x1)) (upd (mu_val z2.2) (x4).toNatClampNeg x2)) (upd (mu_sor z2.2) (x4).toNatClampNeg x3))) H := hP
        have hD : va_D A (MW a n cA (mu_s_sor (mu_s_val (mu_s_sec z2.2 (upd (mu_sec z2.2) (x4).toNatClampNeg x1)) (upd (mu_val z2.2) (x4).toNatClampNeg x2)) (upd (mu_sor z2.2) (x4).toNatClampNeg x3))) := hD
        refine lv_aload_n hx hb dX3_put_71 rfl (lv_at hl 0 rfl) ?_
        refine va_get (D := D) (ci := 3) (v := .ref (a 3)) (C := RX3) (T := TX3) (N := 16) hx hb hts in_X3_put_X3 hown hK hP 0 rfl rfl 4 (by decide) (hts _ (List.mem_of_getElem? (i := 5) rfl)) (fun _ h9 => h9) rfl dX3_put_72 ?_
        refine lv_iload hx hb dX3_put_75 (lv_at hl 4 rfl) ?_
        refine lv_aload_n hx hb dX3_put_77 rfl (lv_at hl 0 rfl) ?_
        refine va_get (D := D) (ci := 3) (v := .int (mu_nxt z2.2)) (C := RX3) (T := TX3) (N := 16) hx hb hts in_X3_put_X3 hown hK hP 0 rfl rfl 7 (by decide) (hts _ (List.mem_of_getElem? (i := 6) rfl)) (fun _ h9 => h9) rfl dX3_put_78 ?_
        obtain ⟨g8, hf⟩ := vgs hf
        refine va_iast hx hb hK hP hD hS 3 2 rfl rfl g8 dX3_put_81 (fun H locs hP hD hS => ?_)
        have hP : va_P D vwCl (MW a n cA (mu_s_ser (mu_s_sor (mu_s_val (mu_s_sec z2.2 (upd (mu_sec z2.2) (x4).toNatClampNeg x1)) (upd (mu_val z2.2) (x4).toNatClampNeg x2)) (upd (mu_sor z2.2) (x4).toNatClampNeg x3)) (upd (mu_ser z2.2) (x4).toNatClampNeg (mu_nxt z2.2)))) H := hP
        have hD : va_D A (MW a n cA (mu_s_ser (mu_s_sor (mu_s_val (mu_s_sec z2.2 (upd (mu_sec z2.2) (x4).toNatClampNeg x1)) (upd (mu_val z2.2) (x4).toNatClampNeg x2)) (upd (mu_sor z2.2) (x4).toNatClampNeg x3)) (upd (mu_ser z2.2) (x4).toNatClampNeg (mu_nxt z2.2)))) := hD
        refine lv_aload_n hx hb dX3_put_82 rfl (lv_at hl 0 rfl) ?_
        refine lv_dup hx hb dX3_put_83 rfl ?_
        refine va_get (D := D) (ci := 3) (v := .int (mu_nxt z2.2)) (C := RX3) (T := TX3) (N := 16) hx hb hts in_X3_put_X3 hown hK hP 0 rfl rfl 7 (by decide) (hts _ (List.mem_of_getElem? (i := 6) rfl)) (fun _ h9 => h9) rfl dX3_put_84 ?_
        refine lv_iconst (v := zI 1) hx hb dX3_put_87 (by decide) ?_
        refine lv_iadd hx hb dX3_put_88 ?_
        refine va_put (D := D) (ci := 3) (v := .int ((mu_nxt z2.2) + (zI 1))) (ty := .int) (C := RX3) (T := TX3) (N := 16) hx hb hts in_X3_put_X3 tyX3 tyX3_ok nmX3 hown hK hP hD hS 0 rfl rfl 7 (by decide) (hts _ (List.mem_of_getElem? (i := 6) rfl)) (fun _ h9 => h9) rfl (by decide +kernel) rfl rfl (Nat.le_of_ble_eq_true rfl) dX3_put_89 (fun H locs hP hD hS => ?_)
        have hP : va_P D vwCl (MW a n cA (mu_s_nxt (mu_s_ser (mu_s_sor (mu_s_val (mu_s_sec z2.2 (upd (mu_sec z2.2) (x4).toNatClampNeg x1)) (upd (mu_val z2.2) (x4).toNatClampNeg x2)) (upd (mu_sor z2.2) (x4).toNatClampNeg x3)) (upd (mu_ser z2.2) (x4).toNatClampNeg (mu_nxt z2.2))) ((mu_nxt z2.2) + (zI 1)))) H := hP
        have hD : va_D A (MW a n cA (mu_s_nxt (mu_s_ser (mu_s_sor (mu_s_val (mu_s_sec z2.2 (upd (mu_sec z2.2) (x4).toNatClampNeg x1)) (upd (mu_val z2.2) (x4).toNatClampNeg x2)) (upd (mu_sor z2.2) (x4).toNatClampNeg x3)) (upd (mu_ser z2.2) (x4).toNatClampNeg (mu_nxt z2.2))) ((mu_nxt z2.2) + (zI 1)))) := hD
        refine lv_iconst (v := zI 1) hx hb dX3_put_92 (by decide) ?_
        cases hf
        exact vz_zret X rfl hP hD hS dX3_put_93
      · have hf := ift c4 hf
        refine lv_iconst (v := zI 0) hx hb dX3_put_45 (by decide) ?_
        cases hf
        exact vz_zret X rfl hP hD hS dX3_put_46
    · have hf := iff_ c1 hf
      refine lv_aload_n hx hb dX3_put_21 rfl (lv_at hl 0 rfl) ?_
      refine va_get (D := D) (ci := 3) (v := .ref (a 1)) (C := RX3) (T := TX3) (N := 16) hx hb hts in_X3_put_X3 hown hK hP 0 rfl rfl 2 (by decide) (hts _ (List.mem_of_getElem? (i := 2) rfl)) (fun _ h9 => h9) rfl dX3_put_22 ?_
      refine lv_iload hx hb dX3_put_25 (lv_at hl 4 rfl) ?_
      obtain ⟨g9, hf⟩ := vgs hf
      refine va_iald hx hb hK hP 1 0 rfl rfl g9 dX3_put_27 ?_
      refine lv_iconst (v := zI (-1)) hx hb dX3_put_28 (by decide) ?_
      refine lv_icmp_eq (tgt := 38) hx hb dX3_put_29 (by decide) (fun c10 => ?_) (fun c10 => ?_)
      · have hf := ift c10 hf
        refine lv_aload_n hx hb dX3_put_38 rfl (lv_at hl 0 rfl) ?_
        obtain ⟨z11, hz12, hf⟩ := bd hf
        refine vz_call (rest := []) X (kX3_operates hz12) (cwV 0 hts gX3_put_X3_operates rfl rfl rfl (by decide +kernel) ⟨Nat.le_of_ble_eq_true rfl, Nat.le_of_ble_eq_true rfl⟩) 0 3 rfl rfl rfl hl.1 rfl (Nat.le_of_ble_eq_true rfl) dX3_put_39 ⟨Nat.zero_le _, Nat.zero_le _⟩ hP hD hS (fun H locs hP hD hS => ?_)
        refine lv_if_ne (tgt := 47) hx hb dX3_put_42 (by decide) (fun c13 => ?_) (fun c13 => ?_)
        · have hf := iff_ c13 hf
          refine lv_aload_n hx hb dX3_put_47 rfl (lv_at hl 0 rfl) ?_
          refine va_get (D := D) (ci := 3) (v := .ref (a 1)) (C := RX3) (T := TX3) (N := 16) hx hb hts in_X3_put_X3 hown hK hP 0 rfl rfl 2 (by decide) (hts _ (List.mem_of_getElem? (i := 2) rfl)) (fun _ h9 => h9) rfl dX3_put_48 ?_
          refine lv_iload hx hb dX3_put_51 (lv_at hl 4 rfl) ?_
          refine lv_iload_n hx hb dX3_put_53 rfl (lv_at hl 1 rfl) ?_
          obtain ⟨g14, hf⟩ := vgs hf
          refine va_iast hx hb hK hP hD hS 1 0 rfl rfl g14 dX3_put_54 (fun H locs hP hD hS => ?_)
          have hP : va_P D vwCl (MW a n cA (mu_s_sec z11.2 (upd (mu_sec z11.2) (x4).toNatClampNeg x1))) H := hP
          have hD : va_D A (MW a n cA (mu_s_sec z11.2 (upd (mu_sec z11.2) (x4).toNatClampNeg x1))) := hD
          refine lv_aload_n hx hb dX3_put_55 rfl (lv_at hl 0 rfl) ?_
          refine va_get (D := D) (ci := 3) (v := .ref (a 2)) (C := RX3) (T := TX3) (N := 16) hx hb hts in_X3_put_X3 hown hK hP 0 rfl rfl 3 (by decide) (hts _ (List.mem_of_getElem? (i := 3) rfl)) (fun _ h9 => h9) rfl dX3_put_56 ?_
          refine lv_iload hx hb dX3_put_59 (lv_at hl 4 rfl) ?_
          refine lv_iload_n hx hb dX3_put_61 rfl (lv_at hl 2 rfl) ?_
          obtain ⟨g15, hf⟩ := vgs hf
          refine va_iast hx hb hK hP hD hS 2 1 rfl rfl g15 dX3_put_62 (fun H locs hP hD hS => ?_)
          have hP : va_P D vwCl (MW a n cA (mu_s_val (mu_s_sec z11.2 (upd (mu_sec z11.2) (x4).toNatClampNeg x1)) (upd (mu_val z11.2) (x4).toNatClampNeg x2))) H := hP
          have hD : va_D A (MW a n cA (mu_s_val (mu_s_sec z11.2 (upd (mu_sec z11.2) (x4).toNatClampNeg x1)) (upd (mu_val z11.2) (x4).toNatClampNeg x2))) := hD
          refine lv_aload_n hx hb dX3_put_63 rfl (lv_at hl 0 rfl) ?_
          refine va_get (D := D) (ci := 3) (v := .ref (a 4)) (C := RX3) (T := TX3) (N := 16) hx hb hts in_X3_put_X3 hown hK hP 0 rfl rfl 5 (by decide) (hts _ (List.mem_of_getElem? (i := 4) rfl)) (fun _ h9 => h9) rfl dX3_put_64 ?_
          refine lv_iload hx hb dX3_put_67 (lv_at hl 4 rfl) ?_
          refine lv_iload_n hx hb dX3_put_69 rfl (lv_at hl 3 rfl) ?_
          obtain ⟨g16, hf⟩ := vgs hf
          refine va_iast hx hb hK hP hD hS 4 3 rfl rfl g16 dX3_put_70 (fun H locs hP hD hS => ?_)
          have hP : va_P D vwCl (MW a n cA (mu_s_sor (mu_s_val (mu_s_sec z11.2 (upd (mu_sec z11.2) (x4).toNatClampNeg x1)) (upd (mu_val z11.2) (x4).toNatClampNeg x2)) (upd (mu_sor z11.2) (x4).toNatClampNeg x3))) H := hP
          have hD : va_D A (MW a n cA (mu_s_sor (mu_s_val (mu_s_sec z11.2 (upd (mu_sec z11.2) (x4).toNatClampNeg x1)) (upd (mu_val z11.2) (x4).toNatClampNeg x2)) (upd (mu_sor z11.2) (x4).toNatClampNeg x3))) := hD
          refine lv_aload_n hx hb dX3_put_71 rfl (lv_at hl 0 rfl) ?_
          refine va_get (D := D) (ci := 3) (v := .ref (a 3)) (C := RX3) (T := TX3) (N := 16) hx hb hts in_X3_put_X3 hown hK hP 0 rfl rfl 4 (by decide) (hts _ (List.mem_of_getElem? (i := 5) rfl)) (fun _ h9 => h9) rfl dX3_put_72 ?_
          refine lv_iload hx hb dX3_put_75 (lv_at hl 4 rfl) ?_
          refine lv_aload_n hx hb dX3_put_77 rfl (lv_at hl 0 rfl) ?_
          refine va_get (D := D) (ci := 3) (v := .int (mu_nxt z11.2)) (C := RX3) (T := TX3) (N := 16) hx hb hts in_X3_put_X3 hown hK hP 0 rfl rfl 7 (by decide) (hts _ (List.mem_of_getElem? (i := 6) rfl)) (fun _ h9 => h9) rfl dX3_put_78 ?_
          obtain ⟨g17, hf⟩ := vgs hf
          refine va_iast hx hb hK hP hD hS 3 2 rfl rfl g17 dX3_put_81 (fun H locs hP hD hS => ?_)
          have hP : va_P D vwCl (MW a n cA (mu_s_ser (mu_s_sor (mu_s_val (mu_s_sec z11.2 (upd (mu_sec z11.2) (x4).toNatClampNeg x1)) (upd (mu_val z11.2) (x4).toNatClampNeg x2)) (upd (mu_sor z11.2) (x4).toNatClampNeg x3)) (upd (mu_ser z11.2) (x4).toNatClampNeg (mu_nxt z11.2)))) H := hP
          have hD : va_D A (MW a n cA (mu_s_ser (mu_s_sor (mu_s_val (mu_s_sec z11.2 (upd (mu_sec z11.2) (x4).toNatClampNeg x1)) (upd (mu_val z11.2) (x4).toNatClampNeg x2)) (upd (mu_sor z11.2) (x4).toNatClampNeg x3)) (upd (mu_ser z11.2) (x4).toNatClampNeg (mu_nxt z11.2)))) := hD
          refine lv_aload_n hx hb dX3_put_82 rfl (lv_at hl 0 rfl) ?_
          refine lv_dup hx hb dX3_put_83 rfl ?_
          refine va_get (D := D) (ci := 3) (v := .int (mu_nxt z11.2)) (C := RX3) (T := TX3) (N := 16) hx hb hts in_X3_put_X3 hown hK hP 0 rfl rfl 7 (by decide) (hts _ (List.mem_of_getElem? (i := 6) rfl)) (fun _ h9 => h9) rfl dX3_put_84 ?_
          refine lv_iconst (v := zI 1) hx hb dX3_put_87 (by decide) ?_
          refine lv_iadd hx hb dX3_put_88 ?_
          refine va_put (D := D) (ci := 3) (v := .int ((mu_nxt z11.2) + (zI 1))) (ty := .int) (C := RX3) (T := TX3) (N := 16) hx hb hts in_X3_put_X3 tyX3 tyX3_ok nmX3 hown hK hP hD hS 0 rfl rfl 7 (by decide) (hts _ (List.mem_of_getElem? (i := 6) rfl)) (fun _ h9 => h9) rfl (by decide +kernel) rfl rfl (Nat.le_of_ble_eq_true rfl) dX3_put_89 (fun H locs hP hD hS => ?_)
          have hP : va_P D vwCl (MW a n cA (mu_s_nxt (mu_s_ser (mu_s_sor (mu_s_val (mu_s_sec z11.2 (upd (mu_sec z11.2) (x4).toNatClampNeg x1)) (upd (mu_val z11.2) (x4).toNatClampNeg x2)) (upd (mu_sor z11.2) (x4).toNatClampNeg x3)) (upd (mu_ser z11.2) (x4).toNatClampNeg (mu_nxt z11.2))) ((mu_nxt z11.2) + (zI 1)))) H := hP
          have hD : va_D A (MW a n cA (mu_s_nxt (mu_s_ser (mu_s_sor (mu_s_val (mu_s_sec z11.2 (upd (mu_sec z11.2) (x4).toNatClampNeg x1)) (upd (mu_val z11.2) (x4).toNatClampNeg x2)) (upd (mu_sor z11.2) (x4).toNatClampNeg x3)) (upd (mu_ser z11.2) (x4).toNatClampNeg (mu_nxt z11.2))) ((mu_nxt z11.2) + (zI 1)))) := hD
          refine lv_iconst (v := zI 1) hx hb dX3_put_92 (by decide) ?_
          cases hf
          exact vz_zret X rfl hP hD hS dX3_put_93
        · have hf := ift c13 hf
          refine lv_iconst (v := zI 0) hx hb dX3_put_45 (by decide) ?_
          cases hf
          exact vz_zret X rfl hP hD hS dX3_put_46
      · have hf := iff_ c10 hf
        refine lv_iinc (v := x4 + (zI 1)) (lv' := [(4, .int (x4 + (zI 1))), (0, .ref (a 0)), (1, .int x1), (2, .int x2), (3, .int x3)]) hx hb dX3_put_32 hl (k := 4) rfl rfl (by decide) rfl (fun ls hl => ?_)
        refine lv_goto (tgt := 8) hx hb dX3_put_35 (by decide) ?_
        exact ih x1 x2 x3 (x4 + (zI 1)) u _ _ _ _ _ hf hP hD hS (lv_sub hl [1, 2, 3, 4, 0] rfl)
set_option maxHeartbeats 4000000 in
set_option maxRecDepth 100000 in
theorem lbX3_put_e {K : Nat} (X : vzX D (MT cA) A wsX3_put cX3_put 5 (some .boolean) RX3 p s m args meth c) : ∀ (x1 x2 x3 : Int32) (u : MU) (H : Heap) (locs : List Loc) (ls : Array Slot) (r : Int32) (u2 : MU), fX3_put n K x1 x2 x3 u = some (r, u2) → va_P D vwCl (MW a n cA u) H → va_D A (MW a n cA u) → va_S A s.heap H locs → lv_has ls 5 [(0, .ref (a 0)), (1, .int x1), (2, .int x2), (3, .int x3)] → W p l e (headSpec wsX3_put rmX3_put).room s m args below meth c H locs 0 0 (MQ below (vzQ D (MT cA) (MW a n cA) A r u2) args s 0 0 A) (F0 m 0 ls []) := by
  obtain ⟨hx, hb, hr, hml, hown, hts, hlk, hN, hK, hA⟩ := id X
  intro x1 x2 x3 u H locs ls r u2 hf hP hD hS hl
  unfold fX3_put at hf
  refine lv_iconst (v := zI 4) hx hb dX3_put_0 (by decide) ?_
  refine lv_aload_n hx hb dX3_put_1 rfl (lv_at hl 0 rfl) ?_
  refine va_get (D := D) (ci := 3) (v := .int (mu_opn u)) (C := RX3) (T := TX3) (N := 16) hx hb hts in_X3_put_X3 hown hK hP 0 rfl rfl 8 (by decide) (hts _ (List.mem_of_getElem? (i := 1) rfl)) (fun _ h9 => h9) rfl dX3_put_2 ?_
  refine lv_imul hx hb dX3_put_5 ?_
  refine lv_istore (lv' := [(4, .int ((zI 4) * (mu_opn u))), (0, .ref (a 0)), (1, .int x1), (2, .int x2), (3, .int x3)]) hx hb dX3_put_6 hl (by decide) rfl (fun ls hl => ?_)
  exact lbX3_put_8 X K x1 x2 x3 ((zI 4) * (mu_opn u)) u _ _ _ _ _ hf hP hD hS (lv_sub hl [1, 2, 3, 4, 0] rfl)
end
theorem kX3_put {l : Launch} {D : va_G} {a n : Nat → Nat} {cA : Nat → ClassId} {K : Nat} {x1 x2 x3 : Int32} {u : MU} {r : Int32} {u2 : MU} (h : fX3_put n K x1 x2 x3 u = some (r, u2)) : vzC l D (MT cA) (MW a n cA) yX3_put wsX3_put rmX3_put [.ref (a 0), .int x1, .int x2, .int x3] u r u2 := vzC.of (by decide) rfl (Nat.le_of_ble_eq_true rfl) (fun p e s m below meth c A ls X hP hD hl => lbX3_put_e X x1 x2 x3 u s.heap [] ls r u2 h hP hD va_S.rf hl)
abbrev rmX3_collect : Room := { frames := 2, cells := 0, slots := 0, locals := 44 }
theorem in_X3_collect_X3 : ∀ w ∈ u_ws RX3 TX3 16, w ∈ wsX3_collect := fun _ h => List.mem_cons_of_mem _ (List.mem_append_right _ h)
def fX3_collect_67 (n : Nat → Nat) (K : Nat) : Nat → Int32 → Int32 → MU → Option (Int32 × MU)
  | 0, _, _, _ => none
  | N + 1, x1, x2, u => if (((zI 4) * x1) + (zI 4)) ≤ x2 then (vg x1 (n 5) (vg x1 (n 5) (some (zI 1, mu_s_era u (upd (mu_era u) (x1).toNatClampNeg (((mu_era u) x1.toNatClampNeg) + (zI 1))))))) else (vg x2 (n 1) (fX3_collect_67 n K N x1 (x2 + (zI 1)) (mu_s_sec u (upd (mu_sec u) (x2).toNatClampNeg (zI (-1))))))
def fX3_collect_4 (n : Nat → Nat) (K : Nat) : Nat → Int32 → Int32 → MU → Option (Int32 × MU)
  | 0, _, _, _ => none
  | N + 1, x1, x2, u => if (((zI 4) * x1) + (zI 4)) ≤ x2 then ((fX3_operates n K u).bind fun z2 => (if z2.1 = 0 then (some (zI 0, z2.2)) else (fX3_collect_67 n K K x1 ((zI 4) * x1) z2.2))) else ((fX3_isValid n K x2 u).bind fun z9 => (if z9.1 = 0 then (fX3_collect_4 n K N x1 (x2 + (zI 1)) z9.2) else (vg x2 (n 1) (vg x2 (n 2) (vg x2 (n 4) ((fX3_put n K ((mu_sec z9.2) x2.toNatClampNeg) ((mu_val z9.2) x2.toNatClampNeg) ((mu_sor z9.2) x2.toNatClampNeg) z9.2).bind fun z15 => (if z15.1 = 0 then (some (zI 0, z15.2)) else (fX3_collect_4 n K N x1 (x2 + (zI 1)) z15.2))))))))
def fX3_collect (n : Nat → Nat) (K : Nat) (x1 : Int32) (u : MU) : Option (Int32 × MU) := fX3_collect_4 n K K x1 ((zI 4) * x1) u
section
variable {p : Program} {l : Launch} {e : Env} {s : State} {m : MethodId} {args : Array Value} {below : List Frame} {meth : Method} {c : Code} {D : va_G} {a n : Nat → Nat} {cA : Nat → ClassId} {A : Nat → Prop}
set_option maxHeartbeats 4000000 in
set_option maxRecDepth 100000 in
theorem lbX3_collect_67 {K : Nat} (X : vzX D (MT cA) A wsX3_collect cX3_collect 3 (some .boolean) RX3 p s m args meth c) : ∀ (N : Nat) (x1 x2 : Int32) (u : MU) (H : Heap) (locs : List Loc) (ls : Array Slot) (r : Int32) (u2 : MU), fX3_collect_67 n K N x1 x2 u = some (r, u2) → va_P D vwCl (MW a n cA u) H → va_D A (MW a n cA u) → va_S A s.heap H locs → lv_has ls 3 [(0, .ref (a 0)), (1, .int x1), (2, .int x2)] → W p l e (headSpec wsX3_collect rmX3_collect).room s m args below meth c H locs 0 0 (MQ below (vzQ D (MT cA) (MW a n cA) A r u2) args s 0 0 A) (F0 m 67 ls []) := by
  obtain ⟨hx, hb, hr, hml, hown, hts, hlk, hN, hK, hA⟩ := id X
  intro N
  induction N with
  | zero =>
    intro x1 x2 u H locs ls r u2 hf
    cases hf
  | succ N ih =>
    intro x1 x2 u H locs ls r u2 hf hP hD hS hl
    rw [fX3_collect_67] at hf
    refine lv_iload_n hx hb dX3_collect_67 rfl (lv_at hl 2 rfl) ?_
    refine lv_iconst (v := zI 4) hx hb dX3_collect_68 (by decide) ?_
    refine lv_iload_n hx hb dX3_collect_69 rfl (lv_at hl 1 rfl) ?_
    refine lv_imul hx hb dX3_collect_70 ?_
    refine lv_iconst (v := zI 4) hx hb dX3_collect_71 (by decide) ?_
    refine lv_iadd hx hb dX3_collect_72 ?_
    refine lv_icmp_ge (tgt := 89) hx hb dX3_collect_73 (by decide) (fun c5 => ?_) (fun c5 => ?_)
    · have hf := ift c5 hf
      refine lv_aload_n hx hb dX3_collect_89 rfl (lv_at hl 0 rfl) ?_
      refine va_get (D := D) (ci := 3) (v := .ref (a 5)) (C := RX3) (T := TX3) (N := 16) hx hb hts in_X3_collect_X3 hown hK hP 0 rfl rfl 6 (by decide) (hts _ (List.mem_of_getElem? (i := 4) rfl)) (fun _ h9 => h9) rfl dX3_collect_90 ?_
      refine lv_iload_n hx hb dX3_collect_93 rfl (lv_at hl 1 rfl) ?_
      refine lv_dup2_11 hx hb dX3_collect_94 rfl rfl ?_
      obtain ⟨g6, hf⟩ := vgs hf
      refine va_iald hx hb hK hP 5 4 rfl rfl g6 dX3_collect_95 ?_
      refine lv_iconst (v := zI 1) hx hb dX3_collect_96 (by decide) ?_
      refine lv_iadd hx hb dX3_collect_97 ?_
      obtain ⟨g7, hf⟩ := vgs hf
      refine va_iast hx hb hK hP hD hS 5 4 rfl rfl g7 dX3_collect_98 (fun H locs hP hD hS => ?_)
      have hP : va_P D vwCl (MW a n cA (mu_s_era u (upd (mu_era u) (x1).toNatClampNeg (((mu_era u) x1.toNatClampNeg) + (zI 1))))) H := hP
      have hD : va_D A (MW a n cA (mu_s_era u (upd (mu_era u) (x1).toNatClampNeg (((mu_era u) x1.toNatClampNeg) + (zI 1))))) := hD
      refine lv_iconst (v := zI 1) hx hb dX3_collect_99 (by decide) ?_
      cases hf
      exact vz_zret X rfl hP hD hS dX3_collect_100
    · have hf := iff_ c5 hf
      refine lv_aload_n hx hb dX3_collect_76 rfl (lv_at hl 0 rfl) ?_
      refine va_get (D := D) (ci := 3) (v := .ref (a 1)) (C := RX3) (T := TX3) (N := 16) hx hb hts in_X3_collect_X3 hown hK hP 0 rfl rfl 2 (by decide) (hts _ (List.mem_of_getElem? (i := 1) rfl)) (fun _ h9 => h9) rfl dX3_collect_77 ?_
      refine lv_iload_n hx hb dX3_collect_80 rfl (lv_at hl 2 rfl) ?_
      refine lv_iconst (v := zI (-1)) hx hb dX3_collect_81 (by decide) ?_
      obtain ⟨g8, hf⟩ := vgs hf
      refine va_iast hx hb hK hP hD hS 1 0 rfl rfl g8 dX3_collect_82 (fun H locs hP hD hS => ?_)
      have hP : va_P D vwCl (MW a n cA (mu_s_sec u (upd (mu_sec u) (x2).toNatClampNeg (zI (-1))))) H := hP
      have hD : va_D A (MW a n cA (mu_s_sec u (upd (mu_sec u) (x2).toNatClampNeg (zI (-1))))) := hD
      refine lv_iinc (v := x2 + (zI 1)) (lv' := [(2, .int (x2 + (zI 1))), (0, .ref (a 0)), (1, .int x1)]) hx hb dX3_collect_83 hl (k := 2) rfl rfl (by decide) rfl (fun ls hl => ?_)
      refine lv_goto (tgt := 67) hx hb dX3_collect_86 (by decide) ?_
      exact ih x1 (x2 + (zI 1)) (mu_s_sec u (upd (mu_sec u) (x2).toNatClampNeg (zI (-1)))) _ _ _ _ _ hf hP hD hS (lv_sub hl [1, 2, 0] rfl)
set_option maxHeartbeats 4000000 in
set_option maxRecDepth 100000 in
theorem lbX3_collect_4 {K : Nat} (X : vzX D (MT cA) A wsX3_collect cX3_collect 3 (some .boolean) RX3 p s m args meth c) : ∀ (N : Nat) (x1 x2 : Int32) (u : MU) (H : Heap) (locs : List Loc) (ls : Array Slot) (r : Int32) (u2 : MU), fX3_collect_4 n K N x1 x2 u = some (r, u2) → va_P D vwCl (MW a n cA u) H → va_D A (MW a n cA u) → va_S A s.heap H locs → lv_has ls 3 [(0, .ref (a 0)), (1, .int x1), (2, .int x2)] → W p l e (headSpec wsX3_collect rmX3_collect).room s m args below meth c H locs 0 0 (MQ below (vzQ D (MT cA) (MW a n cA) A r u2) args s 0 0 A) (F0 m 4 ls []) := by
  obtain ⟨hx, hb, hr, hml, hown, hts, hlk, hN, hK, hA⟩ := id X
  intro N
  induction N with
  | zero =>
    intro x1 x2 u H locs ls r u2 hf
    cases hf
  | succ N ih =>
    intro x1 x2 u H locs ls r u2 hf hP hD hS hl
    rw [fX3_collect_4] at hf
    refine lv_iload_n hx hb dX3_collect_4 rfl (lv_at hl 2 rfl) ?_
    refine lv_iconst (v := zI 4) hx hb dX3_collect_5 (by decide) ?_
    refine lv_iload_n hx hb dX3_collect_6 rfl (lv_at hl 1 rfl) ?_
    refine lv_imul hx hb dX3_collect_7 ?_
    refine lv_iconst (v := zI 4) hx hb dX3_collect_8 (by decide) ?_
    refine lv_iadd hx hb dX3_collect_9 ?_
    refine lv_icmp_ge (tgt := 54) hx hb dX3_collect_10 (by decide) (fun c1 => ?_) (fun c1 => ?_)
    · have hf := ift c1 hf
      refine lv_aload_n hx hb dX3_collect_54 rfl (lv_at hl 0 rfl) ?_
      obtain ⟨z2, hz3, hf⟩ := bd hf
      refine vz_call (rest := []) X (kX3_operates hz3) (cwV 0 hts gX3_collect_X3_operates rfl rfl rfl (by decide +kernel) ⟨Nat.le_of_ble_eq_true rfl, Nat.le_of_ble_eq_true rfl⟩) 0 3 rfl rfl rfl hl.1 rfl (Nat.le_of_ble_eq_true rfl) dX3_collect_55 ⟨Nat.zero_le _, Nat.zero_le _⟩ hP hD hS (fun H locs hP hD hS => ?_)
      refine lv_if_ne (tgt := 63) hx hb dX3_collect_58 (by decide) (fun c4 => ?_) (fun c4 => ?_)
      · have hf := iff_ c4 hf
        refine lv_iconst (v := zI 4) hx hb dX3_collect_63 (by decide) ?_
        refine lv_iload_n hx hb dX3_collect_64 rfl (lv_at hl 1 rfl) ?_
        refine lv_imul hx hb dX3_collect_65 ?_
        refine lv_istore_n (lv' := [(2, .int ((zI 4) * x1)), (0, .ref (a 0)), (1, .int x1)]) hx hb dX3_collect_66 rfl hl (by decide) rfl (fun ls hl => ?_)
        exact lbX3_collect_67 X K x1 ((zI 4) * x1) z2.2 _ _ _ _ _ hf hP hD hS (lv_sub hl [1, 2, 0] rfl)
      · have hf := ift c4 hf
        refine lv_iconst (v := zI 0) hx hb dX3_collect_61 (by decide) ?_
        cases hf
        exact vz_zret X rfl hP hD hS dX3_collect_62
    · have hf := iff_ c1 hf
      refine lv_aload_n hx hb dX3_collect_13 rfl (lv_at hl 0 rfl) ?_
      refine lv_iload_n hx hb dX3_collect_14 rfl (lv_at hl 2 rfl) ?_
      obtain ⟨z9, hz10, hf⟩ := bd hf
      refine vz_call (rest := []) X (kX3_isValid hz10) (cwV 1 hts gX3_collect_X3_isValid rfl rfl rfl (by decide +kernel) ⟨Nat.le_of_ble_eq_true rfl, Nat.le_of_ble_eq_true rfl⟩) 0 3 rfl rfl rfl hl.1 rfl (Nat.le_of_ble_eq_true rfl) dX3_collect_15 ⟨Nat.zero_le _, Nat.zero_le _⟩ hP hD hS (fun H locs hP hD hS => ?_)
      refine lv_if_eq (tgt := 48) hx hb dX3_collect_18 (by decide) (fun c11 => ?_) (fun c11 => ?_)
      · have hf := ift c11 hf
        refine lv_iinc (v := x2 + (zI 1)) (lv' := [(2, .int (x2 + (zI 1))), (0, .ref (a 0)), (1, .int x1)]) hx hb dX3_collect_48 hl (k := 2) rfl rfl (by decide) rfl (fun ls hl => ?_)
        refine lv_goto (tgt := 4) hx hb dX3_collect_51 (by decide) ?_
        exact ih x1 (x2 + (zI 1)) z9.2 _ _ _ _ _ hf hP hD hS (lv_sub hl [1, 2, 0] rfl)
      · have hf := iff_ c11 hf
        refine lv_aload_n hx hb dX3_collect_21 rfl (lv_at hl 0 rfl) ?_
        refine lv_aload_n hx hb dX3_collect_22 rfl (lv_at hl 0 rfl) ?_
        refine va_get (D := D) (ci := 3) (v := .ref (a 1)) (C := RX3) (T := TX3) (N := 16) hx hb hts in_X3_collect_X3 hown hK hP 0 rfl rfl 2 (by decide) (hts _ (List.mem_of_getElem? (i := 1) rfl)) (fun _ h9 => h9) rfl dX3_collect_23 ?_
        refine lv_iload_n hx hb dX3_collect_26 rfl (lv_at hl 2 rfl) ?_
        obtain ⟨g12, hf⟩ := vgs hf
        refine va_iald hx hb hK hP 1 0 rfl rfl g12 dX3_collect_27 ?_
        refine lv_aload_n hx hb dX3_collect_28 rfl (lv_at hl 0 rfl) ?_
        refine va_get (D := D) (ci := 3) (v := .ref (a 2)) (C := RX3) (T := TX3) (N := 16) hx hb hts in_X3_collect_X3 hown hK hP 0 rfl rfl 3 (by decide) (hts _ (List.mem_of_getElem? (i := 2) rfl)) (fun _ h9 => h9) rfl dX3_collect_29 ?_
        refine lv_iload_n hx hb dX3_collect_32 rfl (lv_at hl 2 rfl) ?_
        obtain ⟨g13, hf⟩ := vgs hf
        refine va_iald hx hb hK hP 2 1 rfl rfl g13 dX3_collect_33 ?_
        refine lv_aload_n hx hb dX3_collect_34 rfl (lv_at hl 0 rfl) ?_
        refine va_get (D := D) (ci := 3) (v := .ref (a 4)) (C := RX3) (T := TX3) (N := 16) hx hb hts in_X3_collect_X3 hown hK hP 0 rfl rfl 5 (by decide) (hts _ (List.mem_of_getElem? (i := 3) rfl)) (fun _ h9 => h9) rfl dX3_collect_35 ?_
        refine lv_iload_n hx hb dX3_collect_38 rfl (lv_at hl 2 rfl) ?_
        obtain ⟨g14, hf⟩ := vgs hf
        refine va_iald hx hb hK hP 4 3 rfl rfl g14 dX3_collect_39 ?_
        obtain ⟨z15, hz16, hf⟩ := bd hf
        refine vz_call (rest := []) X (kX3_put hz16) (cwV 3 hts gX3_collect_X3_put rfl rfl rfl (by decide +kernel) ⟨Nat.le_of_ble_eq_true rfl, Nat.le_of_ble_eq_true rfl⟩) 0 3 rfl rfl rfl hl.1 rfl (Nat.le_of_ble_eq_true rfl) dX3_collect_40 ⟨Nat.zero_le _, Nat.zero_le _⟩ hP hD hS (fun H locs hP hD hS => ?_)
        refine lv_if_ne (tgt := 48) hx hb dX3_collect_43 (by decide) (fun c17 => ?_) (fun c17 => ?_)
        · have hf := iff_ c17 hf
          refine lv_iinc (v := x2 + (zI 1)) (lv' := [(2, .int (x2 + (zI 1))), (0, .ref (a 0)), (1, .int x1)]) hx hb dX3_collect_48 hl (k := 2) rfl rfl (by decide) rfl (fun ls hl => ?_)
          refine lv_goto (tgt := 4) hx hb dX3_collect_51 (by decide) ?_
          exact ih x1 (x2 + (zI 1)) z15.2 _ _ _ _ _ hf hP hD hS (lv_sub hl [1, 2, 0] rfl)
        · have hf := ift c17 hf
          refine lv_iconst (v := zI 0) hx hb dX3_collect_46 (by decide) ?_
          cases hf
          exact vz_zret X rfl hP hD hS dX3_collect_47
set_option maxHeartbeats 4000000 in
set_option maxRecDepth 100000 in
theorem lbX3_collect_e {K : Nat} (X : vzX D (MT cA) A wsX3_collect cX3_collect 3 (some .boolean) RX3 p s m args meth c) : ∀ (x1 : Int32) (u : MU) (H : Heap) (locs : List Loc) (ls : Array Slot) (r : Int32) (u2 : MU), fX3_collect n K x1 u = some (r, u2) → va_P D vwCl (MW a n cA u) H → va_D A (MW a n cA u) → va_S A s.heap H locs → lv_has ls 3 [(0, .ref (a 0)), (1, .int x1)] → W p l e (headSpec wsX3_collect rmX3_collect).room s m args below meth c H locs 0 0 (MQ below (vzQ D (MT cA) (MW a n cA) A r u2) args s 0 0 A) (F0 m 0 ls []) := by
  obtain ⟨hx, hb, hr, hml, hown, hts, hlk, hN, hK, hA⟩ := id X
  intro x1 u H locs ls r u2 hf hP hD hS hl
  unfold fX3_collect at hf
  refine lv_iconst (v := zI 4) hx hb dX3_collect_0 (by decide) ?_
  refine lv_iload_n hx hb dX3_collect_1 rfl (lv_at hl 1 rfl) ?_
  refine lv_imul hx hb dX3_collect_2 ?_
  refine lv_istore_n (lv' := [(2, .int ((zI 4) * x1)), (0, .ref (a 0)), (1, .int x1)]) hx hb dX3_collect_3 rfl hl (by decide) rfl (fun ls hl => ?_)
  exact lbX3_collect_4 X K x1 ((zI 4) * x1) u _ _ _ _ _ hf hP hD hS (lv_sub hl [1, 2, 0] rfl)
end
theorem kX3_collect {l : Launch} {D : va_G} {a n : Nat → Nat} {cA : Nat → ClassId} {K : Nat} {x1 : Int32} {u : MU} {r : Int32} {u2 : MU} (h : fX3_collect n K x1 u = some (r, u2)) : vzC l D (MT cA) (MW a n cA) yX3_collect wsX3_collect rmX3_collect [.ref (a 0), .int x1] u r u2 := vzC.of (by decide) rfl (Nat.le_of_ble_eq_true rfl) (fun p e s m below meth c A ls X hP hD hl => lbX3_collect_e X x1 u s.heap [] ls r u2 h hP hD va_S.rf hl)
