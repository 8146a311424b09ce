abbrev rmX3_store : Room := { frames := 5, cells := 0, slots := 0, locals := 117 }
theorem in_X3_store_X3 : ∀ w ∈ u_ws RX3 TX3 16, w ∈ wsX3_store := fun _ h => List.mem_cons_of_mem _ (List.mem_append_right _ h)
def fX3_store_46 (n : Nat → Nat) (K : Nat) : Nat → Int32 → MU → Option (Int32 × MU)
  | 0, _, _ => none
  | N + 1, x1, u => if (mu_ent u) ≤ x1 then (some (zI 1, u)) else (vg (x1 + (zI 1)) (n 6) (vg x1 (n 6) (vg (x1 + (zI 1)) (n 7) (vg x1 (n 7) (vg (x1 + (zI 1)) (n 8) (vg x1 (n 8) (fX3_store_46 n K N (x1 + (zI 1)) (mu_s_eso (mu_s_eva (mu_s_ese u (upd (mu_ese u) (x1).toNatClampNeg ((mu_ese u) ((x1 + (zI 1))).toNatClampNeg))) (upd (mu_eva u) (x1).toNatClampNeg ((mu_eva u) ((x1 + (zI 1))).toNatClampNeg))) (upd (mu_eso u) (x1).toNatClampNeg ((mu_eso u) ((x1 + (zI 1))).toNatClampNeg))))))))))
def fX3_store (n : Nat → Nat) (K : Nat) (u : MU) : Option (Int32 × MU) := (fX3_room n K u).bind fun z1 => (if z1.1 = 0 then (some (zI 0, z1.2)) else (vg (zI 0) (n 6) (vg (zI 0) (n 7) (vg (zI 0) (n 8) ((fX3_put n K ((mu_ese z1.2) ((zI 0)).toNatClampNeg) ((mu_eva z1.2) ((zI 0)).toNatClampNeg) ((mu_eso z1.2) ((zI 0)).toNatClampNeg) z1.2).bind fun z7 => (if z7.1 = 0 then (some (zI 0, z7.2)) else (fX3_store_46 n K K (zI 0) (mu_s_ent z7.2 ((mu_ent z7.2) - (zI 1))))))))))
section
variable {p : Program} {l : Launch} {e : Env} {s : State} {m : MethodId} {args : Array Value} {below : List Frame} {meth : Method} {c : Code} {D : va_G} {a n : Nat → Nat} {cA : Nat → ClassId} {A : Nat → Prop}
set_option maxHeartbeats 4000000 in
set_option maxRecDepth 100000 in
theorem lbX3_store_46 {K : Nat} (X : vzX D (MT cA) A wsX3_store cX3_store 2 (some .boolean) RX3 p s m args meth c) : ∀ (N : Nat) (x1 : Int32) (u : MU) (H : Heap) (locs : List Loc) (ls : Array Slot) (r : Int32) (u2 : MU), fX3_store_46 n K N x1 u = some (r, u2) → va_P D vwCl (MW a n cA u) H → va_D A (MW a n cA u) → va_S A s.heap H locs → lv_has ls 2 [(0, .ref (a 0)), (1, .int x1)] → W p l e (headSpec wsX3_store rmX3_store).room s m args below meth c H locs 0 0 (MQ below (vzQ D (MT cA) (MW a n cA) A r u2) args s 0 0 A) (F0 m 46 ls []) := by
  obtain ⟨hx, hb, hr, hml, hown, hts, hlk, hN, hK, hA⟩ := id X
  intro N
  induction N with
  | zero =>
    intro x1 u H locs ls r u2 hf
    cases hf
  | succ N ih =>
    intro x1 u H locs ls r u2 hf hP hD hS hl
    rw [fX3_store_46] at hf
    refine lv_iload_n hx hb dX3_store_46 rfl (lv_at hl 1 rfl) ?_
    refine lv_aload_n hx hb dX3_store_47 rfl (lv_at hl 0 rfl) ?_
    refine va_get (D := D) (ci := 3) (v := .int (mu_ent u)) (C := RX3) (T := TX3) (N := 16) hx hb hts in_X3_store_X3 hown hK hP 0 rfl rfl 12 (by decide) (hts _ (List.mem_of_getElem? (i := 4) rfl)) (fun _ h9 => h9) rfl dX3_store_48 ?_
    refine lv_icmp_ge (tgt := 102) hx hb dX3_store_51 (by decide) (fun c10 => ?_) (fun c10 => ?_)
    · have hf := ift c10 hf
      refine lv_iconst (v := zI 1) hx hb dX3_store_102 (by decide) ?_
      cases hf
      exact vz_zret X rfl hP hD hS dX3_store_103
    · have hf := iff_ c10 hf
      refine lv_aload_n hx hb dX3_store_54 rfl (lv_at hl 0 rfl) ?_
      refine va_get (D := D) (ci := 3) (v := .ref (a 6)) (C := RX3) (T := TX3) (N := 16) hx hb hts in_X3_store_X3 hown hK hP 0 rfl rfl 13 (by decide) (hts _ (List.mem_of_getElem? (i := 1) rfl)) (fun _ h9 => h9) rfl dX3_store_55 ?_
      refine lv_iload_n hx hb dX3_store_58 rfl (lv_at hl 1 rfl) ?_
      refine lv_aload_n hx hb dX3_store_59 rfl (lv_at hl 0 rfl) ?_
      refine va_get (D := D) (ci := 3) (v := .ref (a 6)) (C := RX3) (T := TX3) (N := 16) hx hb hts in_X3_store_X3 hown hK hP 0 rfl rfl 13 (by decide) (hts _ (List.mem_of_getElem? (i := 1) rfl)) (fun _ h9 => h9) rfl dX3_store_60 ?_
      refine lv_iload_n hx hb dX3_store_63 rfl (lv_at hl 1 rfl) ?_
      refine lv_iconst (v := zI 1) hx hb dX3_store_64 (by decide) ?_
      refine lv_iadd hx hb dX3_store_65 ?_
      obtain ⟨g11, hf⟩ := vgs hf
      refine va_iald hx hb hK hP 6 5 rfl rfl g11 dX3_store_66 ?_
      obtain ⟨g12, hf⟩ := vgs hf
      refine va_iast hx hb hK hP hD hS 6 5 rfl rfl g12 dX3_store_67 (fun H locs hP hD hS => ?_)
      have hP : va_P D vwCl (MW a n cA (mu_s_ese u (upd (mu_ese u) (x1).toNatClampNeg ((mu_ese u) ((x1 + (zI 1))).toNatClampNeg)))) H := hP
      have hD : va_D A (MW a n cA (mu_s_ese u (upd (mu_ese u) (x1).toNatClampNeg ((mu_ese u) ((x1 + (zI 1))).toNatClampNeg)))) := hD
      refine lv_aload_n hx hb dX3_store_68 rfl (lv_at hl 0 rfl) ?_
      refine va_get (D := D) (ci := 3) (v := .ref (a 7)) (C := RX3) (T := TX3) (N := 16) hx hb hts in_X3_store_X3 hown hK hP 0 rfl rfl 14 (by decide) (hts _ (List.mem_of_getElem? (i := 2) rfl)) (fun _ h9 => h9) rfl dX3_store_69 ?_
      refine lv_iload_n hx hb dX3_store_72 rfl (lv_at hl 1 rfl) ?_
      refine lv_aload_n hx hb dX3_store_73 rfl (lv_at hl 0 rfl) ?_
      refine va_get (D := D) (ci := 3) (v := .ref (a 7)) (C := RX3) (T := TX3) (N := 16) hx hb hts in_X3_store_X3 hown hK hP 0 rfl rfl 14 (by decide) (hts _ (List.mem_of_getElem? (i := 2) rfl)) (fun _ h9 => h9) rfl dX3_store_74 ?_
      refine lv_iload_n hx hb dX3_store_77 rfl (lv_at hl 1 rfl) ?_
      refine lv_iconst (v := zI 1) hx hb dX3_store_78 (by decide) ?_
      refine lv_iadd hx hb dX3_store_79 ?_
      obtain ⟨g13, hf⟩ := vgs hf
      refine va_iald hx hb hK hP 7 6 rfl rfl g13 dX3_store_80 ?_
      obtain ⟨g14, hf⟩ := vgs hf
      refine va_iast hx hb hK hP hD hS 7 6 rfl rfl g14 dX3_store_81 (fun H locs hP hD hS => ?_)
      have hP : va_P D vwCl (MW a n cA (mu_s_eva (mu_s_ese u (upd (mu_ese u) (x1).toNatClampNeg ((mu_ese u) ((x1 + (zI 1))).toNatClampNeg))) (upd (mu_eva u) (x1).toNatClampNeg ((mu_eva u) ((x1 + (zI 1))).toNatClampNeg)))) H := hP
      have hD : va_D A (MW a n cA (mu_s_eva (mu_s_ese u (upd (mu_ese u) (x1).toNatClampNeg ((mu_ese u) ((x1 + (zI 1))).toNatClampNeg))) (upd (mu_eva u) (x1).toNatClampNeg ((mu_eva u) ((x1 + (zI 1))).toNatClampNeg)))) := hD
      refine lv_aload_n hx hb dX3_store_82 rfl (lv_at hl 0 rfl) ?_
      refine va_get (D := D) (ci := 3) (v := .ref (a 8)) (C := RX3) (T := TX3) (N := 16) hx hb hts in_X3_store_X3 hown hK hP 0 rfl rfl 15 (by decide) (hts _ (List.mem_of_getElem? (i := 3) rfl)) (fun _ h9 => h9) rfl dX3_store_83 ?_
      refine lv_iload_n hx hb dX3_store_86 rfl (lv_at hl 1 rfl) ?_
      refine lv_aload_n hx hb dX3_store_87 rfl (lv_at hl 0 rfl) ?_
      refine va_get (D := D) (ci := 3) (v := .ref (a 8)) (C := RX3) (T := TX3) (N := 16) hx hb hts in_X3_store_X3 hown hK hP 0 rfl rfl 15 (by decide) (hts _ (List.mem_of_getElem? (i := 3) rfl)) (fun _ h9 => h9) rfl dX3_store_88 ?_
      refine lv_iload_n hx hb dX3_store_91 rfl (lv_at hl 1 rfl) ?_
      refine lv_iconst (v := zI 1) hx hb dX3_store_92 (by decide) ?_
      refine lv_iadd hx hb dX3_store_93 ?_
      obtain ⟨g15, hf⟩ := vgs hf
      refine va_iald hx hb hK hP 8 7 rfl rfl g15 dX3_store_94 ?_
      obtain ⟨g16, hf⟩ := vgs hf
      refine va_iast hx hb hK hP hD hS 8 7 rfl rfl g16 dX3_store_95 (fun H locs hP hD hS => ?_)
      have hP : va_P D vwCl (MW a n cA (mu_s_eso (mu_s_eva (mu_s_ese u (upd (mu_ese u) (x1).toNatClampNeg ((mu_ese u) ((x1 + (zI 1))).toNatClampNeg))) (upd (mu_eva u) (x1).toNatClampNeg ((mu_eva u) ((x1 + (zI 1))).toNatClampNeg))) (upd (mu_eso u) (x1).toNatClampNeg ((mu_eso u) ((x1 + (zI 1))).toNatClampNeg)))) H := hP
      have hD : va_D A (MW a n cA (mu_s_eso (mu_s_eva (mu_s_ese u (upd (mu_ese u) (x1).toNatClampNeg ((mu_ese u) ((x1 + (zI 1))).toNatClampNeg))) (upd (mu_eva u) (x1).toNatClampNeg ((mu_eva u) ((x1 + (zI 1))).toNatClampNeg))) (upd (mu_eso u) (x1).toNatClampNeg ((mu_eso u) ((x1 + (zI 1))).toNatClampNeg)))) := hD
      refine lv_iinc (v := x1 + (zI 1)) (lv' := [(1, .int (x1 + (zI 1))), (0, .ref (a 0))]) hx hb dX3_store_96 hl (k := 1) rfl rfl (by decide) rfl (fun ls hl => ?_)
      refine lv_goto (tgt := 46) hx hb dX3_store_99 (by decide) ?_
      exact ih (x1 + (zI 1)) (mu_s_eso (mu_s_eva (mu_s_ese u (upd (mu_ese u) (x1).toNatClampNeg ((mu_ese u) ((x1 + (zI 1))).toNatClampNeg))) (upd (mu_eva u) (x1).toNatClampNeg ((mu_eva u) ((x1 + (zI 1))).toNatClampNeg))) (upd (mu_eso u) (x1).toNatClampNeg ((mu_eso u) ((x1 + (zI 1))).toNatClampNeg))) _ _ _ _ _ hf hP hD hS (lv_sub hl [1, 0] rfl)
set_option maxHeartbeats 4000000 in
set_option maxRecDepth 100000 in
theorem lbX3_store_e {K : Nat} (X : vzX D (MT cA) A wsX3_store cX3_store 2 (some .boolean) RX3 p s m args meth c) : ∀ (u : MU) (H : Heap) (locs : List Loc) (ls : Array Slot) (r : Int32) (u2 : MU), fX3_store n K u = some (r, u2) → va_P D vwCl (MW a n cA u) H → va_D A (MW a n cA u) → va_S A s.heap H locs → lv_has ls 2 [(0, .ref (a 0))] → W p l e (headSpec wsX3_store rmX3_store).room s m args below meth c H locs 0 0 (MQ below (vzQ D (MT cA) (MW a n cA) A r u2) args s 0 0 A) (F0 m 0 ls []) := by
  obtain ⟨hx, hb, hr, hml, hown, hts, hlk, hN, hK, hA⟩ := id X
  intro u H locs ls r u2 hf hP hD hS hl
  unfold fX3_store at hf
  refine lv_aload_n hx hb dX3_store_0 rfl (lv_at hl 0 rfl) ?_
  obtain ⟨z1, hz2, hf⟩ := bd hf
  refine vz_call (rest := []) X (kX3_room hz2) (cwV 0 hts gX3_store_X3_room rfl rfl rfl (by decide +kernel) ⟨Nat.le_of_ble_eq_true rfl, Nat.le_of_ble_eq_true rfl⟩) 0 3 rfl rfl rfl hl.1 rfl (Nat.le_of_ble_eq_true rfl) dX3_store_1 ⟨Nat.zero_le _, Nat.zero_le _⟩ hP hD hS (fun H locs hP hD hS => ?_)
  refine lv_if_eq (tgt := 32) hx hb dX3_store_4 (by decide) (fun c3 => ?_) (fun c3 => ?_)
  · have hf := ift c3 hf
    refine lv_iconst (v := zI 0) hx hb dX3_store_32 (by decide) ?_
    cases hf
    exact vz_zret X rfl hP hD hS dX3_store_33
  · have hf := iff_ c3 hf
    refine lv_aload_n hx hb dX3_store_7 rfl (lv_at hl 0 rfl) ?_
    refine lv_aload_n hx hb dX3_store_8 rfl (lv_at hl 0 rfl) ?_
    refine va_get (D := D) (ci := 3) (v := .ref (a 6)) (C := RX3) (T := TX3) (N := 16) hx hb hts in_X3_store_X3 hown hK hP 0 rfl rfl 13 (by decide) (hts _ (List.mem_of_getElem? (i := 1) rfl)) (fun _ h9 => h9) rfl dX3_store_9 ?_
    refine lv_iconst (v := zI 0) hx hb dX3_store_12 (by decide) ?_
    obtain ⟨g4, hf⟩ := vgs hf
    refine va_iald hx hb hK hP 6 5 rfl rfl g4 dX3_store_13 ?_
    refine lv_aload_n hx hb dX3_store_14 rfl (lv_at hl 0 rfl) ?_
    refine va_get (D := D) (ci := 3) (v := .ref (a 7)) (C := RX3) (T := TX3) (N := 16) hx hb hts in_X3_store_X3 hown hK hP 0 rfl rfl 14 (by decide) (hts _ (List.mem_of_getElem? (i := 2) rfl)) (fun _ h9 => h9) rfl dX3_store_15 ?_
    refine lv_iconst (v := zI 0) hx hb dX3_store_18 (by decide) ?_
    obtain ⟨g5, hf⟩ := vgs hf
    refine va_iald hx hb hK hP 7 6 rfl rfl g5 dX3_store_19 ?_
    refine lv_aload_n hx hb dX3_store_20 rfl (lv_at hl 0 rfl) ?_
    refine va_get (D := D) (ci := 3) (v := .ref (a 8)) (C := RX3) (T := TX3) (N := 16) hx hb hts in_X3_store_X3 hown hK hP 0 rfl rfl 15 (by decide) (hts _ (List.mem_of_getElem? (i := 3) rfl)) (fun _ h9 => h9) rfl dX3_store_21 ?_
    refine lv_iconst (v := zI 0) hx hb dX3_store_24 (by decide) ?_
    obtain ⟨g6, hf⟩ := vgs hf
    refine va_iald hx hb hK hP 8 7 rfl rfl g6 dX3_store_25 ?_
    obtain ⟨z7, hz8, hf⟩ := bd hf
    refine vz_call (rest := []) X (kX3_put hz8) (cwV 3 hts gX3_store_X3_put rfl rfl rfl (by decide +kernel) ⟨Nat.le_of_ble_eq_true rfl, Nat.le_of_ble_eq_true rfl⟩) 0 3 rfl rfl rfl hl.1 rfl (Nat.le_of_ble_eq_true rfl) dX3_store_26 ⟨Nat.zero_le _, Nat.zero_le _⟩ hP hD hS (fun H locs hP hD hS => ?_)
    refine lv_if_ne (tgt := 34) hx hb dX3_store_29 (by decide) (fun c9 => ?_) (fun c9 => ?_)
    · have hf := iff_ c9 hf
      refine lv_aload_n hx hb dX3_store_34 rfl (lv_at hl 0 rfl) ?_
      refine lv_dup hx hb dX3_store_35 rfl ?_
      refine va_get (D := D) (ci := 3) (v := .int (mu_ent z7.2)) (C := RX3) (T := TX3) (N := 16) hx hb hts in_X3_store_X3 hown hK hP 0 rfl rfl 12 (by decide) (hts _ (List.mem_of_getElem? (i := 4) rfl)) (fun _ h9 => h9) rfl dX3_store_36 ?_
      refine lv_iconst (v := zI 1) hx hb dX3_store_39 (by decide) ?_
      refine lv_isub hx hb dX3_store_40 ?_
      refine va_put (D := D) (ci := 3) (v := .int ((mu_ent z7.2) - (zI 1))) (ty := .int) (C := RX3) (T := TX3) (N := 16) hx hb hts in_X3_store_X3 tyX3 tyX3_ok nmX3 hown hK hP hD hS 0 rfl rfl 12 (by decide) (hts _ (List.mem_of_getElem? (i := 4) rfl)) (fun _ h9 => h9) rfl (by decide +kernel) rfl rfl (Nat.le_of_ble_eq_true rfl) dX3_store_41 (fun H locs hP hD hS => ?_)
      have hP : va_P D vwCl (MW a n cA (mu_s_ent z7.2 ((mu_ent z7.2) - (zI 1)))) H := hP
      have hD : va_D A (MW a n cA (mu_s_ent z7.2 ((mu_ent z7.2) - (zI 1)))) := hD
      refine lv_iconst (v := zI 0) hx hb dX3_store_44 (by decide) ?_
      refine lv_istore_n (lv' := [(1, .int (zI 0)), (0, .ref (a 0))]) hx hb dX3_store_45 rfl hl (by decide) rfl (fun ls hl => ?_)
      exact lbX3_store_46 X K (zI 0) (mu_s_ent z7.2 ((mu_ent z7.2) - (zI 1))) _ _ _ _ _ hf hP hD hS (lv_sub hl [1, 0] rfl)
    · have hf := ift c9 hf
      refine lv_iconst (v := zI 0) hx hb dX3_store_32 (by decide) ?_
      cases hf
      exact vz_zret X rfl hP hD hS dX3_store_33
end
theorem kX3_store {l : Launch} {D : va_G} {a n : Nat → Nat} {cA : Nat → ClassId} {K : Nat} {u : MU} {r : Int32} {u2 : MU} (h : fX3_store n K u = some (r, u2)) : vzC l D (MT cA) (MW a n cA) yX3_store wsX3_store rmX3_store [.ref (a 0)] u r u2 := vzC.of (by decide) rfl (Nat.le_of_ble_eq_true rfl) (fun p e s m below meth c A ls X hP hD hl => lbX3_store_e X u s.heap [] ls r u2 h hP hD va_S.rf hl)
abbrev rmX3_cut : Room := { frames := 4, cells := 0, slots := 0, locals := 93 }
theorem in_X3_cut_X3 : ∀ w ∈ u_ws RX3 TX3 16, w ∈ wsX3_cut := fun _ h => List.mem_cons_of_mem _ (List.mem_append_right _ h)
def fX3_cut_77 (n : Nat → Nat) (K : Nat) (kk : MU → Option MU) : Nat → Int32 → MU → Option MU
  | 0, _, _ => none
  | N + 1, x1, u => if ((zI 4) * (mu_blk u)) ≤ x1 then ((fX3_freeBlocks n K u).bind fun z4 => (if 0 < z4.1 then (kk (mu_s_gon z4.2 (zI 0))) else ((fX3_pick n K (zI 4) (zI 1) z4.2).bind fun z8 => ((fX3_collect n K z8.1 z8.2).bind fun z10 => (if z10.1 = 0 then (kk (mu_s_gon z10.2 (zI 1))) else (kk (mu_s_gon z10.2 (zI 0)))))))) else (vg x1 (n 1) (if ((mu_sec u) x1.toNatClampNeg) = (zI (-1)) then (fX3_cut_77 n K kk N (x1 + (zI 1)) (mu_s_nxt u (mu_nxt u))) else (vg x1 (n 3) (if ((mu_ser u) x1.toNatClampNeg) < (mu_nxt u) then (fX3_cut_77 n K kk N (x1 + (zI 1)) (mu_s_nxt u (mu_nxt u))) else (vg x1 (n 3) (fX3_cut_77 n K kk N (x1 + (zI 1)) (mu_s_nxt u (((mu_ser u) x1.toNatClampNeg) + (zI 1)))))))))
def fX3_cut_34 (n : Nat → Nat) (K : Nat) (kk : MU → Option MU) : Nat → Int32 → MU → Option MU
  | 0, _, _ => none
  | N + 1, x1, u => if (mu_blk u) ≤ x1 then (fX3_cut_77 n K kk K (zI 0) u) else ((fX3_programmed n K x1 u).bind fun z20 => (if z20.1 ≤ 0 then (fX3_cut_34 n K kk N (x1 + (zI 1)) (mu_s_opn z20.2 (mu_opn z20.2))) else (if (zI 4) ≤ z20.1 then (fX3_cut_34 n K kk N (x1 + (zI 1)) (mu_s_opn z20.2 (mu_opn z20.2))) else (fX3_cut_34 n K kk N (x1 + (zI 1)) (mu_s_opn z20.2 x1)))))
def fX3_cut_5 (n : Nat → Nat) (K : Nat) : Nat → MU → Option MU
  | 0, _ => none
  | N + 1, u => if (mu_gon u) = 0 then (some u) else (fX3_cut_34 n K (fX3_cut_5 n K N) K (zI 0) (mu_s_nxt (mu_s_opn (mu_s_ent (mu_s_gon u (zI 0)) (zI 0)) (zI (-1))) (zI 0)))
def fX3_cut (n : Nat → Nat) (K : Nat) (u : MU) : Option MU := fX3_cut_5 n K K (mu_s_gon u (zI 1))
section
variable {p : Program} {l : Launch} {e : Env} {s : State} {m : MethodId} {args : Array Value} {below : List Frame} {meth : Method} {c : Code} {D : va_G} {a n : Nat → Nat} {cA : Nat → ClassId} {A : Nat → Prop}
set_option maxHeartbeats 4000000 in
set_option maxRecDepth 100000 in
theorem lbX3_cut_77 {K : Nat} (X : vzX D (MT cA) A wsX3_cut cX3_cut 3 none RX3 p s m args meth c) {kk : MU → Option MU} (hk : ∀ (u : MU) (H : Heap) (locs : List Loc) (ls : Array Slot) (u2 : MU), kk u = some u2 → va_P D vwCl (MW a n cA u) H → va_D A (MW a n cA u) → va_S A s.heap H locs → lv_has ls 3 [(0, .ref (a 0))] → W p l e (headSpec wsX3_cut rmX3_cut).room s m args below meth c H locs 0 0 (MQ below (vzQv D (MT cA) (MW a n cA) A u2) args s 0 0 A) (F0 m 5 ls [])) : ∀ (N : Nat) (x1 : Int32) (u : MU) (H : Heap) (locs : List Loc) (ls : Array Slot) (u2 : MU), fX3_cut_77 n K kk N x1 u = some u2 → va_P D vwCl (MW a n cA u) H → va_D A (MW a n cA u) → va_S A s.heap H locs → lv_has ls 3 [(0, .ref (a 0)), (1, .int x1)] → W p l e (headSpec wsX3_cut rmX3_cut).room s m args below meth c H locs 0 0 (MQ below (vzQv D (MT cA) (MW a n cA) A u2) args s 0 0 A) (F0 m 77 ls []) := by
  obtain ⟨hx, hb, hr, hml, hown, hts, hlk, hN, hK, hA⟩ := id X
  intro N
  induction N with
  | zero =>
    intro x1 u H locs ls u2 hf
    cases hf
  | succ N ih =>
    intro x1 u H locs ls u2 hf hP hD hS hl
    rw [fX3_cut_77] at hf
    refine lv_iload_n hx hb dX3_cut_77 rfl (lv_at hl 1 rfl) ?_
    refine lv_iconst (v := zI 4) hx hb dX3_cut_78 (by decide) ?_
    refine lv_aload_n hx hb dX3_cut_79 rfl (lv_at hl 0 rfl) ?_
    refine va_get (D := D) (ci := 3) (v := .int (mu_blk u)) (C := RX3) (T := TX3) (N := 16) hx hb hts in_X3_cut_X3 hown hK hP 0 rfl rfl 0 (by decide) (hts _ (List.mem_of_getElem? (i := 5) rfl)) (fun _ h9 => h9) rfl dX3_cut_80 ?_
    refine lv_imul hx hb dX3_cut_83 ?_
    refine lv_icmp_ge (tgt := 135) hx hb dX3_cut_84 (by decide) (fun c3 => ?_) (fun c3 => ?_)
    · have hf := ift c3 hf
      refine lv_aload_n hx hb dX3_cut_135 rfl (lv_at hl 0 rfl) ?_
      obtain ⟨z4, hz5, hf⟩ := bd hf
      refine vz_call (rest := []) X (kX3_freeBlocks hz5) (cwV 0 hts gX3_cut_X3_freeBlocks rfl rfl rfl (by decide +kernel) ⟨Nat.le_of_ble_eq_true rfl, Nat.le_of_ble_eq_true rfl⟩) 0 3 rfl rfl rfl hl.1 rfl (Nat.le_of_ble_eq_true rfl) dX3_cut_136 ⟨Nat.zero_le _, Nat.zero_le _⟩ hP hD hS (fun H locs hP hD hS => ?_)
      refine lv_if_gt (tgt := 155) hx hb dX3_cut_139 (by decide) (fun c6 => ?_) (fun c6 => ?_)
      · have hf := ift c6 hf
        refine lv_iconst (v := zI 1) hx hb dX3_cut_155 (by decide) ?_
        refine lv_goto (tgt := 160) hx hb dX3_cut_156 (by decide) ?_
        refine lv_istore_n (lv' := [(1, .int (zI 1)), (0, .ref (a 0))]) hx hb dX3_cut_160 rfl hl (by decide) rfl (fun ls hl => ?_)
        refine lv_aload_n hx hb dX3_cut_161 rfl (lv_at hl 1 rfl) ?_
        refine lv_iload_n hx hb dX3_cut_162 rfl (lv_at hl 0 rfl) ?_
        refine lv_if_ne (tgt := 170) hx hb dX3_cut_163 (by decide) (fun c7 => ?_) (fun c7 => absurd c7 (by decide))
        refine lv_iconst (v := zI 0) hx hb dX3_cut_170 (by decide) ?_
        refine va_put (D := D) (ci := 3) (v := .int (zI 0)) (ty := .boolean) (C := RX3) (T := TX3) (N := 16) hx hb hts in_X3_cut_X3 tyX3 tyX3_ok nmX3 hown hK hP hD hS 0 rfl rfl 11 (by decide) (hts _ (List.mem_of_getElem? (i := 1) rfl)) (fun _ h9 => h9) rfl (by decide +kernel) rfl rfl (Nat.le_of_ble_eq_true rfl) dX3_cut_171 (fun H locs hP hD hS => ?_)
        have hP : va_P D vwCl (MW a n cA (mu_s_gon z4.2 (zI 0))) H := hP
        have hD : va_D A (MW a n cA (mu_s_gon z4.2 (zI 0))) := hD
        refine lv_goto (tgt := 5) hx hb dX3_cut_174 (by decide) ?_
        exact hk (mu_s_gon z4.2 (zI 0)) _ _ _ _ hf hP hD hS (lv_sub hl [1] rfl)
      · have hf := iff_ c6 hf
        refine lv_aload_n hx hb dX3_cut_142 rfl (lv_at hl 0 rfl) ?_
        refine lv_aload_n hx hb dX3_cut_143 rfl (lv_at hl 0 rfl) ?_
        refine lv_iconst (v := zI 4) hx hb dX3_cut_144 (by decide) ?_
        refine lv_iconst (v := zI 1) hx hb dX3_cut_145 (by decide) ?_
        obtain ⟨z8, hz9, hf⟩ := bd hf
        refine vz_call (rest := [.ref (a 0)]) X (kX3_pick hz9) (cwV 2 hts gX3_cut_X3_pick rfl rfl rfl (by decide +kernel) ⟨Nat.le_of_ble_eq_true rfl, Nat.le_of_ble_eq_true rfl⟩) 0 3 rfl rfl rfl hl.1 rfl (Nat.le_of_ble_eq_true rfl) dX3_cut_146 ⟨Nat.zero_le _, Nat.zero_le _⟩ hP hD hS (fun H locs hP hD hS => ?_)
        obtain ⟨z10, hz11, hf⟩ := bd hf
        refine vz_call (rest := []) X (kX3_collect hz11) (cwV 1 hts gX3_cut_X3_collect rfl rfl rfl (by decide +kernel) ⟨Nat.le_of_ble_eq_true rfl, Nat.le_of_ble_eq_true rfl⟩) 0 3 rfl rfl rfl hl.1 rfl (Nat.le_of_ble_eq_true rfl) dX3_cut_149 ⟨Nat.zero_le _, Nat.zero_le _⟩ hP hD hS (fun H locs hP hD hS => ?_)
        refine lv_if_eq (tgt := 159) hx hb dX3_cut_152 (by decide) (fun c12 => ?_) (fun c12 => ?_)
        · have hf := ift c12 hf
          refine lv_iconst (v := zI 0) hx hb dX3_cut_159 (by decide) ?_
          refine lv_istore_n (lv' := [(1, .int (zI 0)), (0, .ref (a 0))]) hx hb dX3_cut_160 rfl hl (by decide) rfl (fun ls hl => ?_)
          refine lv_aload_n hx hb dX3_cut_161 rfl (lv_at hl 1 rfl) ?_
          refine lv_iload_n hx hb dX3_cut_162 rfl (lv_at hl 0 rfl) ?_
          refine lv_if_ne (tgt := 170) hx hb dX3_cut_163 (by decide) (fun c13 => absurd (by decide) c13) (fun c13 => ?_)
          refine lv_iconst (v := zI 1) hx hb dX3_cut_166 (by decide) ?_
          refine lv_goto (tgt := 171) hx hb dX3_cut_167 (by decide) ?_
          refine va_put (D := D) (ci := 3) (v := .int (zI 1)) (ty := .boolean) (C := RX3) (T := TX3) (N := 16) hx hb hts in_X3_cut_X3 tyX3 tyX3_ok nmX3 hown hK hP hD hS 0 rfl rfl 11 (by decide) (hts _ (List.mem_of_getElem? (i := 1) rfl)) (fun _ h9 => h9) rfl (by decide +kernel) rfl rfl (Nat.le_of_ble_eq_true rfl) dX3_cut_171 (fun H locs hP hD hS => ?_)
          have hP : va_P D vwCl (MW a n cA (mu_s_gon z10.2 (zI 1))) H := hP
          have hD : va_D A (MW a n cA (mu_s_gon z10.2 (zI 1))) := hD
          refine lv_goto (tgt := 5) hx hb dX3_cut_174 (by decide) ?_
          exact hk (mu_s_gon z10.2 (zI 1)) _ _ _ _ hf hP hD hS (lv_sub hl [1] rfl)
        · have hf := iff_ c12 hf
          refine lv_iconst (v := zI 1) hx hb dX3_cut_155 (by decide) ?_
          refine lv_goto (tgt := 160) hx hb dX3_cut_156 (by decide) ?_
          refine lv_istore_n (lv' := [(1, .int (zI 1)), (0, .ref (a 0))]) hx hb dX3_cut_160 rfl hl (by decide) rfl (fun ls hl => ?_)
          refine lv_aload_n hx hb dX3_cut_161 rfl (lv_at hl 1 rfl) ?_
          refine lv_iload_n hx hb dX3_cut_162 rfl (lv_at hl 0 rfl) ?_
          refine lv_if_ne (tgt := 170) hx hb dX3_cut_163 (by decide) (fun c14 => ?_) (fun c14 => absurd c14 (by decide))
          refine lv_iconst (v := zI 0) hx hb dX3_cut_170 (by decide) ?_
          refine va_put (D := D) (ci := 3) (v := .int (zI 0)) (ty := .boolean) (C := RX3) (T := TX3) (N := 16) hx hb hts in_X3_cut_X3 tyX3 tyX3_ok nmX3 hown hK hP hD hS 0 rfl rfl 11 (by decide) (hts _ (List.mem_of_getElem? (i := 1) rfl)) (fun _ h9 => h9) rfl (by decide +kernel) rfl rfl (Nat.le_of_ble_eq_true rfl) dX3_cut_171 (fun H locs hP hD hS => ?_)
          have hP : va_P D vwCl (MW a n cA (mu_s_gon z10.2 (zI 0))) H := hP
          have hD : va_D A (MW a n cA (mu_s_gon z10.2 (zI 0))) := hD
          refine lv_goto (tgt := 5) hx hb dX3_cut_174 (by decide) ?_
          exact hk (mu_s_gon z10.2 (zI 0)) _ _ _ _ hf hP hD hS (lv_sub hl [1] rfl)
    · have hf := iff_ c3 hf
      refine lv_aload_n hx hb dX3_cut_87 rfl (lv_at hl 0 rfl) ?_
      refine lv_aload_n hx hb dX3_cut_88 rfl (lv_at hl 0 rfl) ?_
      refine va_get (D := D) (ci := 3) (v := .ref (a 1)) (C := RX3) (T := TX3) (N := 16) hx hb hts in_X3_cut_X3 hown hK hP 0 rfl rfl 2 (by decide) (hts _ (List.mem_of_getElem? (i := 6) rfl)) (fun _ h9 => h9) rfl dX3_cut_89 ?_
      refine lv_iload_n hx hb dX3_cut_92 rfl (lv_at hl 1 rfl) ?_
      obtain ⟨g15, hf⟩ := vgs hf
      refine va_iald hx hb hK hP 1 0 rfl rfl g15 dX3_cut_93 ?_
      refine lv_iconst (v := zI (-1)) hx hb dX3_cut_94 (by decide) ?_
      refine lv_icmp_eq (tgt := 122) hx hb dX3_cut_95 (by decide) (fun c16 => ?_) (fun c16 => ?_)
      · have hf := ift c16 hf
        refine lv_aload_n hx hb dX3_cut_122 rfl (lv_at hl 0 rfl) ?_
        refine va_get (D := D) (ci := 3) (v := .int (mu_nxt u)) (C := RX3) (T := TX3) (N := 16) hx hb hts in_X3_cut_X3 hown hK hP 0 rfl rfl 7 (by decide) (hts _ (List.mem_of_getElem? (i := 4) rfl)) (fun _ h9 => h9) rfl dX3_cut_123 ?_
        refine va_put (D := D) (ci := 3) (v := .int (mu_nxt u)) (ty := .int) (C := RX3) (T := TX3) (N := 16) hx hb hts in_X3_cut_X3 tyX3 tyX3_ok nmX3 hown hK hP hD hS 0 rfl rfl 7 (by decide) (hts _ (List.mem_of_getElem? (i := 4) rfl)) (fun _ h9 => h9) rfl (by decide +kernel) rfl rfl (Nat.le_of_ble_eq_true rfl) dX3_cut_126 (fun H locs hP hD hS => ?_)
        have hP : va_P D vwCl (MW a n cA (mu_s_nxt u (mu_nxt u))) H := hP
        have hD : va_D A (MW a n cA (mu_s_nxt u (mu_nxt u))) := hD
        refine lv_iinc (v := x1 + (zI 1)) (lv' := [(1, .int (x1 + (zI 1))), (0, .ref (a 0))]) hx hb dX3_cut_129 hl (k := 1) rfl rfl (by decide) rfl (fun ls hl => ?_)
        refine lv_goto (tgt := 77) hx hb dX3_cut_132 (by decide) ?_
        exact ih (x1 + (zI 1)) (mu_s_nxt u (mu_nxt u)) _ _ _ _ hf hP hD hS (lv_sub hl [1, 0] rfl)
      · have hf := iff_ c16 hf
        refine lv_aload_n hx hb dX3_cut_98 rfl (lv_at hl 0 rfl) ?_
        refine va_get (D := D) (ci := 3) (v := .ref (a 3)) (C := RX3) (T := TX3) (N := 16) hx hb hts in_X3_cut_X3 hown hK hP 0 rfl rfl 4 (by decide) (hts _ (List.mem_of_getElem? (i := 7) rfl)) (fun _ h9 => h9) rfl dX3_cut_99 ?_
        refine lv_iload_n hx hb dX3_cut_102 rfl (lv_at hl 1 rfl) ?_
        obtain ⟨g17, hf⟩ := vgs hf
        refine va_iald hx hb hK hP 3 2 rfl rfl g17 dX3_cut_103 ?_
        refine lv_aload_n hx hb dX3_cut_104 rfl (lv_at hl 0 rfl) ?_
        refine va_get (D := D) (ci := 3) (v := .int (mu_nxt u)) (C := RX3) (T := TX3) (N := 16) hx hb hts in_X3_cut_X3 hown hK hP 0 rfl rfl 7 (by decide) (hts _ (List.mem_of_getElem? (i := 4) rfl)) (fun _ h9 => h9) rfl dX3_cut_105 ?_
        refine lv_icmp_lt (tgt := 122) hx hb dX3_cut_108 (by decide) (fun c18 => ?_) (fun c18 => ?_)
        · have hf := ift c18 hf
          refine lv_aload_n hx hb dX3_cut_122 rfl (lv_at hl 0 rfl) ?_
          refine va_get (D := D) (ci := 3) (v := .int (mu_nxt u)) (C := RX3) (T := TX3) (N := 16) hx hb hts in_X3_cut_X3 hown hK hP 0 rfl rfl 7 (by decide) (hts _ (List.mem_of_getElem? (i := 4) rfl)) (fun _ h9 => h9) rfl dX3_cut_123 ?_
          refine va_put (D := D) (ci := 3) (v := .int (mu_nxt u)) (ty := .int) (C := RX3) (T := TX3) (N := 16) hx hb hts in_X3_cut_X3 tyX3 tyX3_ok nmX3 hown hK hP hD hS 0 rfl rfl 7 (by decide) (hts _ (List.mem_of_getElem? (i := 4) rfl)) (fun _ h9 => h9) rfl (by decide +kernel) rfl rfl (Nat.le_of_ble_eq_true rfl) dX3_cut_126 (fun H locs hP hD hS => ?_)
          have hP : va_P D vwCl (MW a n cA (mu_s_nxt u (mu_nxt u))) H := hP
          have hD : va_D A (MW a n cA (mu_s_nxt u (mu_nxt u))) := hD
          refine lv_iinc (v := x1 + (zI 1)) (lv' := [(1, .int (x1 + (zI 1))), (0, .ref (a 0))]) hx hb dX3_cut_129 hl (k := 1) rfl rfl (by decide) rfl (fun ls hl => ?_)
          refine lv_goto (tgt := 77) hx hb dX3_cut_132 (by decide) ?_
          exact ih (x1 + (zI 1)) (mu_s_nxt u (mu_nxt u)) _ _ _ _ hf hP hD hS (lv_sub hl [1, 0] rfl)
        · have hf := iff_ c18 hf
          refine lv_aload_n hx hb dX3_cut_111 rfl (lv_at hl 0 rfl) ?_
          refine va_get (D := D) (ci := 3) (v := .ref (a 3)) (C := RX3) (T := TX3) (N := 16) hx hb hts in_X3_cut_X3 hown hK hP 0 rfl rfl 4 (by decide) (hts _ (List.mem_of_getElem? (i := 7) rfl)) (fun _ h9 => h9) rfl dX3_cut_112 ?_
          refine lv_iload_n hx hb dX3_cut_115 rfl (lv_at hl 1 rfl) ?_
          obtain ⟨g19, hf⟩ := vgs hf
          refine va_iald hx hb hK hP 3 2 rfl rfl g19 dX3_cut_116 ?_
          refine lv_iconst (v := zI 1) hx hb dX3_cut_117 (by decide) ?_
          refine lv_iadd hx hb dX3_cut_118 ?_
          refine lv_goto (tgt := 126) hx hb dX3_cut_119 (by decide) ?_
          refine va_put (D := D) (ci := 3) (v := .int (((mu_ser u) x1.toNatClampNeg) + (zI 1))) (ty := .int) (C := RX3) (T := TX3) (N := 16) hx hb hts in_X3_cut_X3 tyX3 tyX3_ok nmX3 hown hK hP hD hS 0 rfl rfl 7 (by decide) (hts _ (List.mem_of_getElem? (i := 4) rfl)) (fun _ h9 => h9) rfl (by decide +kernel) rfl rfl (Nat.le_of_ble_eq_true rfl) dX3_cut_126 (fun H locs hP hD hS => ?_)
          have hP : va_P D vwCl (MW a n cA (mu_s_nxt u (((mu_ser u) x1.toNatClampNeg) + (zI 1)))) H := hP
          have hD : va_D A (MW a n cA (mu_s_nxt u (((mu_ser u) x1.toNatClampNeg) + (zI 1)))) := hD
          refine lv_iinc (v := x1 + (zI 1)) (lv' := [(1, .int (x1 + (zI 1))), (0, .ref (a 0))]) hx hb dX3_cut_129 hl (k := 1) rfl rfl (by decide) rfl (fun ls hl => ?_)
          refine lv_goto (tgt := 77) hx hb dX3_cut_132 (by decide) ?_
          exact ih (x1 + (zI 1)) (mu_s_nxt u (((mu_ser u) x1.toNatClampNeg) + (zI 1))) _ _ _ _ hf hP hD hS (lv_sub hl [1, 0] rfl)
set_option maxHeartbeats 4000000 in
set_option maxRecDepth 100000 in
theorem lbX3_cut_34 {K : Nat} (X : vzX D (MT cA) A wsX3_cut cX3_cut 3 none RX3 p s m args meth c) {kk : MU → Option MU} (hk : ∀ (u : MU) (H : Heap) (locs : List Loc) (ls : Array Slot) (u2 : MU), kk u = some u2 → va_P D vwCl (MW a n cA u) H → va_D A (MW a n cA u) → va_S A s.heap H locs → lv_has ls 3 [(0, .ref (a 0))] → W p l e (headSpec wsX3_cut rmX3_cut).room s m args below meth c H locs 0 0 (MQ below (vzQv D (MT cA) (MW a n cA) A u2) args s 0 0 A) (F0 m 5 ls [])) : ∀ (N : Nat) (x1 : Int32) (u : MU) (H : Heap) (locs : List Loc) (ls : Array Slot) (u2 : MU), fX3_cut_34 n K kk N x1 u = some u2 → va_P D vwCl (MW a n cA u) H → va_D A (MW a n cA u) → va_S A s.heap H locs → lv_has ls 3 [(0, .ref (a 0)), (1, .int x1)] → W p l e (headSpec wsX3_cut rmX3_cut).room s m args below meth c H locs 0 0 (MQ below (vzQv D (MT cA) (MW a n cA) A u2) args s 0 0 A) (F0 m 34 ls []) := by
  obtain ⟨hx, hb, hr, hml, hown, hts, hlk, hN, hK, hA⟩ := id X
  intro N
  induction N with
  | zero =>
    intro x1 u H locs ls u2 hf
    cases hf
  | succ N ih =>
    intro x1 u H locs ls u2 hf hP hD hS hl
    rw [fX3_cut_34] at hf
    refine lv_iload_n hx hb dX3_cut_34 rfl (lv_at hl 1 rfl) ?_
    refine lv_aload_n hx hb dX3_cut_35 rfl (lv_at hl 0 rfl) ?_
    refine va_get (D := D) (ci := 3) (v := .int (mu_blk u)) (C := RX3) (T := TX3) (N := 16) hx hb hts in_X3_cut_X3 hown hK hP 0 rfl rfl 0 (by decide) (hts _ (List.mem_of_getElem? (i := 5) rfl)) (fun _ h9 => h9) rfl dX3_cut_36 ?_
    refine lv_icmp_ge (tgt := 75) hx hb dX3_cut_39 (by decide) (fun c2 => ?_) (fun c2 => ?_)
    · have hf := ift c2 hf
      refine lv_iconst (v := zI 0) hx hb dX3_cut_75 (by decide) ?_
      refine lv_istore_n (lv' := [(1, .int (zI 0)), (0, .ref (a 0))]) hx hb dX3_cut_76 rfl hl (by decide) rfl (fun ls hl => ?_)
      exact lbX3_cut_77 X hk K (zI 0) u _ _ _ _ hf hP hD hS (lv_sub hl [1, 0] rfl)
    · have hf := iff_ c2 hf
      refine lv_aload_n hx hb dX3_cut_42 rfl (lv_at hl 0 rfl) ?_
      refine lv_iload_n hx hb dX3_cut_43 rfl (lv_at hl 1 rfl) ?_
      obtain ⟨z20, hz21, hf⟩ := bd hf
      refine vz_call (rest := []) X (kX3_programmed hz21) (cwV 1 hts gX3_cut_X3_programmed rfl rfl rfl (by decide +kernel) ⟨Nat.le_of_ble_eq_true rfl, Nat.le_of_ble_eq_true rfl⟩) 0 3 rfl rfl rfl hl.1 rfl (Nat.le_of_ble_eq_true rfl) dX3_cut_44 ⟨Nat.zero_le _, Nat.zero_le _⟩ hP hD hS (fun H locs hP hD hS => ?_)
      refine lv_istore_n (lv' := [(2, .int z20.1), (0, .ref (a 0)), (1, .int x1)]) hx hb dX3_cut_47 rfl hl (by decide) rfl (fun ls hl => ?_)
      refine lv_aload_n hx hb dX3_cut_48 rfl (lv_at hl 1 rfl) ?_
      refine lv_iload_n hx hb dX3_cut_49 rfl (lv_at hl 0 rfl) ?_
      refine lv_if_le (tgt := 62) hx hb dX3_cut_50 (by decide) (fun c22 => ?_) (fun c22 => ?_)
      · have hf := ift c22 hf
        refine lv_aload_n hx hb dX3_cut_62 rfl (lv_at hl 1 rfl) ?_
        refine va_get (D := D) (ci := 3) (v := .int (mu_opn z20.2)) (C := RX3) (T := TX3) (N := 16) hx hb hts in_X3_cut_X3 hown hK hP 0 rfl rfl 8 (by decide) (hts _ (List.mem_of_getElem? (i := 3) rfl)) (fun _ h9 => h9) rfl dX3_cut_63 ?_
        refine va_put (D := D) (ci := 3) (v := .int (mu_opn z20.2)) (ty := .int) (C := RX3) (T := TX3) (N := 16) hx hb hts in_X3_cut_X3 tyX3 tyX3_ok nmX3 hown hK hP hD hS 0 rfl rfl 8 (by decide) (hts _ (List.mem_of_getElem? (i := 3) rfl)) (fun _ h9 => h9) rfl (by decide +kernel) rfl rfl (Nat.le_of_ble_eq_true rfl) dX3_cut_66 (fun H locs hP hD hS => ?_)
        have hP : va_P D vwCl (MW a n cA (mu_s_opn z20.2 (mu_opn z20.2))) H := hP
        have hD : va_D A (MW a n cA (mu_s_opn z20.2 (mu_opn z20.2))) := hD
        refine lv_iinc (v := x1 + (zI 1)) (lv' := [(1, .int (x1 + (zI 1))), (2, .int z20.1), (0, .ref (a 0))]) hx hb dX3_cut_69 hl (k := 2) rfl rfl (by decide) rfl (fun ls hl => ?_)
        refine lv_goto (tgt := 34) hx hb dX3_cut_72 (by decide) ?_
        exact ih (x1 + (zI 1)) (mu_s_opn z20.2 (mu_opn z20.2)) _ _ _ _ hf hP hD hS (lv_sub hl [2, 0] rfl)
      · have hf := iff_ c22 hf
        refine lv_iload_n hx hb dX3_cut_53 rfl (lv_at hl 0 rfl) ?_
        refine lv_iconst (v := zI 4) hx hb dX3_cut_54 (by decide) ?_
        refine lv_icmp_ge (tgt := 62) hx hb dX3_cut_55 (by decide) (fun c23 => ?_) (fun c23 => ?_)
        · have hf := ift c23 hf
          refine lv_aload_n hx hb dX3_cut_62 rfl (lv_at hl 1 rfl) ?_
          refine va_get (D := D) (ci := 3) (v := .int (mu_opn z20.2)) (C := RX3) (T := TX3) (N := 16) hx hb hts in_X3_cut_X3 hown hK hP 0 rfl rfl 8 (by decide) (hts _ (List.mem_of_getElem? (i := 3) rfl)) (fun _ h9 => h9) rfl dX3_cut_63 ?_
          refine va_put (D := D) (ci := 3) (v := .int (mu_opn z20.2)) (ty := .int) (C := RX3) (T := TX3) (N := 16) hx hb hts in_X3_cut_X3 tyX3 tyX3_ok nmX3 hown hK hP hD hS 0 rfl rfl 8 (by decide) (hts _ (List.mem_of_getElem? (i := 3) rfl)) (fun _ h9 => h9) rfl (by decide +kernel) rfl rfl (Nat.le_of_ble_eq_true rfl) dX3_cut_66 (fun H locs hP hD hS => ?_)
          have hP : va_P D vwCl (MW a n cA (mu_s_opn z20.2 (mu_opn z20.2))) H := hP
          have hD : va_D A (MW a n cA (mu_s_opn z20.2 (mu_opn z20.2))) := hD
          refine lv_iinc (v := x1 + (zI 1)) (lv' := [(1, .int (x1 + (zI 1))), (2, .int z20.1), (0, .ref (a 0))]) hx hb dX3_cut_69 hl (k := 2) rfl rfl (by decide) rfl (fun ls hl => ?_)
          refine lv_goto (tgt := 34) hx hb dX3_cut_72 (by decide) ?_
          exact ih (x1 + (zI 1)) (mu_s_opn z20.2 (mu_opn z20.2)) _ _ _ _ hf hP hD hS (lv_sub hl [2, 0] rfl)
        · have hf := iff_ c23 hf
          refine lv_iload_n hx hb dX3_cut_58 rfl (lv_at hl 2 rfl) ?_
          refine lv_goto (tgt := 66) hx hb dX3_cut_59 (by decide) ?_
          refine va_put (D := D) (ci := 3) (v := .int x1) (ty := .int) (C := RX3) (T := TX3) (N := 16) hx hb hts in_X3_cut_X3 tyX3 tyX3_ok nmX3 hown hK hP hD hS 0 rfl rfl 8 (by decide) (hts _ (List.mem_of_getElem? (i := 3) rfl)) (fun _ h9 => h9) rfl (by decide +kernel) rfl rfl (Nat.le_of_ble_eq_true rfl) dX3_cut_66 (fun H locs hP hD hS => ?_)
          have hP : va_P D vwCl (MW a n cA (mu_s_opn z20.2 x1)) H := hP
          have hD : va_D A (MW a n cA (mu_s_opn z20.2 x1)) := hD
          refine lv_iinc (v := x1 + (zI 1)) (lv' := [(1, .int (x1 + (zI 1))), (2, .int z20.1), (0, .ref (a 0))]) hx hb dX3_cut_69 hl (k := 2) rfl rfl (by decide) rfl (fun ls hl => ?_)
          refine lv_goto (tgt := 34) hx hb dX3_cut_72 (by decide) ?_
          exact ih (x1 + (zI 1)) (mu_s_opn z20.2 x1) _ _ _ _ hf hP hD hS (lv_sub hl [2, 0] rfl)
set_option maxHeartbeats 4000000 in
set_option maxRecDepth 100000 in
theorem lbX3_cut_5 {K : Nat} (X : vzX D (MT cA) A wsX3_cut cX3_cut 3 none RX3 p s m args meth c) : ∀ (N : Nat) (u : MU) (H : Heap) (locs : List Loc) (ls : Array Slot) (u2 : MU), fX3_cut_5 n K N u = some u2 → va_P D vwCl (MW a n cA u) H → va_D A (MW a n cA u) → va_S A s.heap H locs → lv_has ls 3 [(0, .ref (a 0))] → W p l e (headSpec wsX3_cut rmX3_cut).room s m args below meth c H locs 0 0 (MQ below (vzQv D (MT cA) (MW a n cA) A u2) args s 0 0 A) (F0 m 5 ls []) := by
  obtain ⟨hx, hb, hr, hml, hown, hts, hlk, hN, hK, hA⟩ := id X
  intro N
  induction N with
  | zero =>
    intro u H locs ls u2 hf
    cases hf
  | succ N ih =>
    intro u H locs ls u2 hf hP hD hS hl
    rw [fX3_cut_5] at hf
    refine lv_aload_n hx hb dX3_cut_5 rfl (lv_at hl 0 rfl) ?_
    refine va_get (D := D) (ci := 3) (v := .int (mu_gon u)) (C := RX3) (T := TX3) (N := 16) hx hb hts in_X3_cut_X3 hown hK hP 0 rfl rfl 11 (by decide) (hts _ (List.mem_of_getElem? (i := 1) rfl)) (fun _ h9 => h9) rfl dX3_cut_6 ?_
    refine lv_if_eq (tgt := 177) hx hb dX3_cut_9 (by decide) (fun c1 => ?_) (fun c1 => ?_)
    · have hf := ift c1 hf
      cases hf
      exact vz_vret X hP hD hS dX3_cut_177
    · have hf := iff_ c1 hf
      refine lv_aload_n hx hb dX3_cut_12 rfl (lv_at hl 0 rfl) ?_
      refine lv_iconst (v := zI 0) hx hb dX3_cut_13 (by decide) ?_
      refine va_put (D := D) (ci := 3) (v := .int (zI 0)) (ty := .boolean) (C := RX3) (T := TX3) (N := 16) hx hb hts in_X3_cut_X3 tyX3 tyX3_ok nmX3 hown hK hP hD hS 0 rfl rfl 11 (by decide) (hts _ (List.mem_of_getElem? (i := 1) rfl)) (fun _ h9 => h9) rfl (by decide +kernel) rfl rfl (Nat.le_of_ble_eq_true rfl) dX3_cut_14 (fun H locs hP hD hS => ?_)
      have hP : va_P D vwCl (MW a n cA (mu_s_gon u (zI 0))) H := hP
      have hD : va_D A (MW a n cA (mu_s_gon u (zI 0))) := hD
      refine lv_aload_n hx hb dX3_cut_17 rfl (lv_at hl 0 rfl) ?_
      refine lv_iconst (v := zI 0) hx hb dX3_cut_18 (by decide) ?_
      refine va_put (D := D) (ci := 3) (v := .int (zI 0)) (ty := .int) (C := RX3) (T := TX3) (N := 16) hx hb hts in_X3_cut_X3 tyX3 tyX3_ok nmX3 hown hK hP hD hS 0 rfl rfl 12 (by decide) (hts _ (List.mem_of_getElem? (i := 2) rfl)) (fun _ h9 => h9) rfl (by decide +kernel) rfl rfl (Nat.le_of_ble_eq_true rfl) dX3_cut_19 (fun H locs hP hD hS => ?_)
      have hP : va_P D vwCl (MW a n cA (mu_s_ent (mu_s_gon u (zI 0)) (zI 0))) H := hP
      have hD : va_D A (MW a n cA (mu_s_ent (mu_s_gon u (zI 0)) (zI 0))) := hD
      refine lv_aload_n hx hb dX3_cut_22 rfl (lv_at hl 0 rfl) ?_
      refine lv_iconst (v := zI (-1)) hx hb dX3_cut_23 (by decide) ?_
      refine va_put (D := D) (ci := 3) (v := .int (zI (-1))) (ty := .int) (C := RX3) (T := TX3) (N := 16) hx hb hts in_X3_cut_X3 tyX3 tyX3_ok nmX3 hown hK hP hD hS 0 rfl rfl 8 (by decide) (hts _ (List.mem_of_getElem? (i := 3) rfl)) (fun _ h9 => h9) rfl (by decide +kernel) rfl rfl (Nat.le_of_ble_eq_true rfl) dX3_cut_24 (fun H locs hP hD hS => ?_)
      have hP : va_P D vwCl (MW a n cA (mu_s_opn (mu_s_ent (mu_s_gon u (zI 0)) (zI 0)) (zI (-1)))) H := hP
      have hD : va_D A (MW a n cA (mu_s_opn (mu_s_ent (mu_s_gon u (zI 0)) (zI 0)) (zI (-1)))) := hD
      refine lv_aload_n hx hb dX3_cut_27 rfl (lv_at hl 0 rfl) ?_
      refine lv_iconst (v := zI 0) hx hb dX3_cut_28 (by decide) ?_
      refine va_put (D := D) (ci := 3) (v := .int (zI 0)) (ty := .int) (C := RX3) (T := TX3) (N := 16) hx hb hts in_X3_cut_X3 tyX3 tyX3_ok nmX3 hown hK hP hD hS 0 rfl rfl 7 (by decide) (hts _ (List.mem_of_getElem? (i := 4) rfl)) (fun _ h9 => h9) rfl (by decide +kernel) rfl rfl (Nat.le_of_ble_eq_true rfl) dX3_cut_29 (fun H locs hP hD hS => ?_)
      have hP : va_P D vwCl (MW a n cA (mu_s_nxt (mu_s_opn (mu_s_ent (mu_s_gon u (zI 0)) (zI 0)) (zI (-1))) (zI 0))) H := hP
      have hD : va_D A (MW a n cA (mu_s_nxt (mu_s_opn (mu_s_ent (mu_s_gon u (zI 0)) (zI 0)) (zI (-1))) (zI 0))) := hD
      refine lv_iconst (v := zI 0) hx hb dX3_cut_32 (by decide) ?_
      refine lv_istore_n (lv' := [(1, .int (zI 0)), (0, .ref (a 0))]) hx hb dX3_cut_33 rfl hl (by decide) rfl (fun ls hl => ?_)
      exact lbX3_cut_34 X ih K (zI 0) (mu_s_nxt (mu_s_opn (mu_s_ent (mu_s_gon u (zI 0)) (zI 0)) (zI (-1))) (zI 0)) _ _ _ _ hf hP hD hS (lv_sub hl [1, 0] rfl)
set_option maxHeartbeats 4000000 in
set_option maxRecDepth 100000 in
theorem lbX3_cut_e {K : Nat} (X : vzX D (MT cA) A wsX3_cut cX3_cut 3 none RX3 p s m args meth c) : ∀ (u : MU) (H : Heap) (locs : List Loc) (ls : Array Slot) (u2 : MU), fX3_cut n K u = some u2 → va_P D vwCl (MW a n cA u) H → va_D A (MW a n cA u) → va_S A s.heap H locs → lv_has ls 3 [(0, .ref (a 0))] → W p l e (headSpec wsX3_cut rmX3_cut).room s m args below meth c H locs 0 0 (MQ below (vzQv D (MT cA) (MW a n cA) A u2) args s 0 0 A) (F0 m 0 ls []) := by
  obtain ⟨hx, hb, hr, hml, hown, hts, hlk, hN, hK, hA⟩ := id X
  intro u H locs ls u2 hf hP hD hS hl
  unfold fX3_cut at hf
  refine lv_aload_n hx hb dX3_cut_0 rfl (lv_at hl 0 rfl) ?_
  refine lv_iconst (v := zI 1) hx hb dX3_cut_1 (by decide) ?_
  refine va_put (D := D) (ci := 3) (v := .int (zI 1)) (ty := .boolean) (C := RX3) (T := TX3) (N := 16) hx hb hts in_X3_cut_X3 tyX3 tyX3_ok nmX3 hown hK hP hD hS 0 rfl rfl 11 (by decide) (hts _ (List.mem_of_getElem? (i := 1) rfl)) (fun _ h9 => h9) rfl (by decide +kernel) rfl rfl (Nat.le_of_ble_eq_true rfl) dX3_cut_2 (fun H locs hP hD hS => ?_)
  have hP : va_P D vwCl (MW a n cA (mu_s_gon u (zI 1))) H := hP
  have hD : va_D A (MW a n cA (mu_s_gon u (zI 1))) := hD
  exact lbX3_cut_5 X K (mu_s_gon u (zI 1)) _ _ _ _ hf hP hD hS (lv_sub hl [0] rfl)
end
theorem kX3_cut {l : Launch} {D : va_G} {a n : Nat → Nat} {cA : Nat → ClassId} {K : Nat} {u : MU} {u2 : MU} (h : fX3_cut n K u = some u2) : vzV l D (MT cA) (MW a n cA) yX3_cut wsX3_cut rmX3_cut [.ref (a 0)] u u2 := vzV.of (by decide) rfl (Nat.le_of_ble_eq_true rfl) (fun p e s m below meth c A ls X hP hD hl => lbX3_cut_e X u s.heap [] ls u2 h hP hD va_S.rf hl)
