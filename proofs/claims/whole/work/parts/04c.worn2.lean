abbrev rmX2_startAgain : Room := { frames := 3, cells := 0, slots := 0, locals := 71 }
theorem in_X2_startAgain_X2 : ∀ w ∈ u_ws RX2 TX2 4, w ∈ wsX2_startAgain := fun _ h => List.mem_cons_of_mem _ (List.mem_append_left _ (List.mem_append_left _ (List.mem_append_right _ h)))
theorem in_X2_startAgain_X0 : ∀ w ∈ u_ws RX0 TX0 4, w ∈ wsX2_startAgain := fun _ h => List.mem_cons_of_mem _ (List.mem_append_left _ (List.mem_append_right _ h))
theorem in_X2_startAgain_X1 : ∀ w ∈ u_ws RX1 TX1 11, w ∈ wsX2_startAgain := fun _ h => List.mem_cons_of_mem _ (List.mem_append_right _ h)
def fX2_startAgain (n : Nat → Nat) (K : Nat) (u : XU) : Option (Int32 × XU) := (fX1_partlyProgrammed n K (xu_s_cnt u (zI 0))).bind fun z1 => ((fX1_greatestSerial n K (xu_s_opn z1.2 z1.1)).bind fun z3 => ((fX1_countFree n K (xu_s_nxt z3.2 (z3.1 + (zI 1)))).bind fun z5 => (if 0 < z5.1 then (some (zI 1, z5.2)) else ((fX1_victim n K (zI 0) z5.2).bind fun z8 => ((fX2_collect n K z8.1 z8.2).bind fun z10 => (if z10.1 = 0 then (some (zI 0, z10.2)) else (some (zI 1, z10.2))))))))
section
variable {p : Program} {l : Launch} {e : Env} {s : State} {m : MethodId} {args : Array Value} {below : List Frame} {meth : Method} {c : Code} {D : va_G} {a n : Nat → Nat} {cA : Nat → ClassId} {A : Nat → Prop}
set_option maxHeartbeats 4000000 in
set_option maxRecDepth 100000 in
theorem lbX2_startAgain_e {K : Nat} (X : vzX D (XT cA) A wsX2_startAgain cX2_startAgain 1 (some .boolean) RX2 p s m args meth c) : ∀ (u : XU) (H : Heap) (locs : List Loc) (ls : Array Slot) (r : Int32) (u2 : XU), fX2_startAgain n K u = some (r, u2) → va_P D vwCl (XW a n cA u) H → va_D A (XW a n cA u) → va_S A s.heap H locs → lv_has ls 1 [(0, .ref (a 0))] → W p l e (headSpec wsX2_startAgain rmX2_startAgain).room s m args below meth c H locs 0 0 (MQ below (vzQ D (XT cA) (XW a n cA) A r u2) args s 0 0 A) (F0 m 0 ls []) := by
  obtain ⟨hx, hb, hr, hml, hown, hts, hlk, hN, hK, hA⟩ := id X
  intro u H locs ls r u2 hf hP hD hS hl
  unfold fX2_startAgain at hf
  refine lv_aload_n hx hb dX2_startAgain_0 rfl (lv_at hl 0 rfl) ?_
  refine va_get (D := D) (ci := 2) (v := .ref (a 2)) (C := RX2) (T := TX2) (N := 4) hx hb hts in_X2_startAgain_X2 hown hK hP 0 rfl rfl 1 (by decide) (hts _ (List.mem_of_getElem? (i := 1) rfl)) (fun _ h9 => h9) rfl dX2_startAgain_1 ?_
  refine lv_iconst (v := zI 0) hx hb dX2_startAgain_4 (by decide) ?_
  refine va_putN (D := D) (ci := 0) (v := .int (zI 0)) (ty := .int) (C := RX0) (T := TX0) (N := 4) hx hb hts in_X2_startAgain_X0 tyX0 tyX0_ok nmX0 hown hK hP hD hS 2 rfl rfl 3 (by decide) (hN.at 12 rfl) (fun _ h9 => h9) rfl (by decide +kernel) rfl rfl (Nat.le_of_ble_eq_true rfl) dX2_startAgain_5 (fun H locs hP hD hS => ?_)
  have hP : va_P D vwCl (XW a n cA (xu_s_cnt u (zI 0))) H := hP
  have hD : va_D A (XW a n cA (xu_s_cnt u (zI 0))) := hD
  refine lv_aload_n hx hb dX2_startAgain_8 rfl (lv_at hl 0 rfl) ?_
  refine lv_aload_n hx hb dX2_startAgain_9 rfl (lv_at hl 0 rfl) ?_
  refine va_get (D := D) (ci := 2) (v := .ref (a 1)) (C := RX2) (T := TX2) (N := 4) hx hb hts in_X2_startAgain_X2 hown hK hP 0 rfl rfl 0 (by decide) (hts _ (List.mem_of_getElem? (i := 2) rfl)) (fun _ h9 => h9) rfl dX2_startAgain_10 ?_
  obtain ⟨z1, hz2, hf⟩ := bd hf
  refine vz_call (rest := [.ref (a 0)]) X (kX1_partlyProgrammed hz2) (cwV 0 hts gX2_startAgain_X1_partlyProgrammed rfl rfl rfl (by decide +kernel) ⟨Nat.le_of_ble_eq_true rfl, Nat.le_of_ble_eq_true rfl⟩) 1 1 rfl rfl rfl hl.1 rfl (Nat.le_of_ble_eq_true rfl) dX2_startAgain_13 ⟨Nat.zero_le _, Nat.zero_le _⟩ hP hD hS (fun H locs hP hD hS => ?_)
  refine va_put (D := D) (ci := 2) (v := .int z1.1) (ty := .int) (C := RX2) (T := TX2) (N := 4) hx hb hts in_X2_startAgain_X2 tyX2 tyX2_ok nmX2 hown hK hP hD hS 0 rfl rfl 3 (by decide) (hts _ (List.mem_of_getElem? (i := 3) rfl)) (fun _ h9 => h9) rfl (by decide +kernel) rfl rfl (Nat.le_of_ble_eq_true rfl) dX2_startAgain_16 (fun H locs hP hD hS => ?_)
  have hP : va_P D vwCl (XW a n cA (xu_s_opn z1.2 z1.1)) H := hP
  have hD : va_D A (XW a n cA (xu_s_opn z1.2 z1.1)) := hD
  refine lv_aload_n hx hb dX2_startAgain_19 rfl (lv_at hl 0 rfl) ?_
  refine va_get (D := D) (ci := 2) (v := .ref (a 1)) (C := RX2) (T := TX2) (N := 4) hx hb hts in_X2_startAgain_X2 hown hK hP 0 rfl rfl 0 (by decide) (hts _ (List.mem_of_getElem? (i := 2) rfl)) (fun _ h9 => h9) rfl dX2_startAgain_20 ?_
  refine lv_aload_n hx hb dX2_startAgain_23 rfl (lv_at hl 0 rfl) ?_
  refine va_get (D := D) (ci := 2) (v := .ref (a 1)) (C := RX2) (T := TX2) (N := 4) hx hb hts in_X2_startAgain_X2 hown hK hP 0 rfl rfl 0 (by decide) (hts _ (List.mem_of_getElem? (i := 2) rfl)) (fun _ h9 => h9) rfl dX2_startAgain_24 ?_
  obtain ⟨z3, hz4, hf⟩ := bd hf
  refine vz_call (rest := [.ref (a 1)]) X (kX1_greatestSerial hz4) (cwV 0 hts gX2_startAgain_X1_greatestSerial rfl rfl rfl (by decide +kernel) ⟨Nat.le_of_ble_eq_true rfl, Nat.le_of_ble_eq_true rfl⟩) 1 1 rfl rfl rfl hl.1 rfl (Nat.le_of_ble_eq_true rfl) dX2_startAgain_27 ⟨Nat.zero_le _, Nat.zero_le _⟩ hP hD hS (fun H locs hP hD hS => ?_)
  refine lv_iconst (v := zI 1) hx hb dX2_startAgain_30 (by decide) ?_
  refine lv_iadd hx hb dX2_startAgain_31 ?_
  refine va_putN (D := D) (ci := 1) (v := .int (z3.1 + (zI 1))) (ty := .int) (C := RX1) (T := TX1) (N := 11) hx hb hts in_X2_startAgain_X1 tyX1 tyX1_ok nmX1 hown hK hP hD hS 1 rfl rfl 8 (by decide) (hN.at 6 rfl) (fun _ h9 => h9) rfl (by decide +kernel) rfl rfl (Nat.le_of_ble_eq_true rfl) dX2_startAgain_32 (fun H locs hP hD hS => ?_)
  have hP : va_P D vwCl (XW a n cA (xu_s_nxt z3.2 (z3.1 + (zI 1)))) H := hP
  have hD : va_D A (XW a n cA (xu_s_nxt z3.2 (z3.1 + (zI 1)))) := hD
  refine lv_aload_n hx hb dX2_startAgain_35 rfl (lv_at hl 0 rfl) ?_
  refine va_get (D := D) (ci := 2) (v := .ref (a 1)) (C := RX2) (T := TX2) (N := 4) hx hb hts in_X2_startAgain_X2 hown hK hP 0 rfl rfl 0 (by decide) (hts _ (List.mem_of_getElem? (i := 2) rfl)) (fun _ h9 => h9) rfl dX2_startAgain_36 ?_
  obtain ⟨z5, hz6, hf⟩ := bd hf
  refine vz_call (rest := []) X (kX1_countFree hz6) (cwV 0 hts gX2_startAgain_X1_countFree rfl rfl rfl (by decide +kernel) ⟨Nat.le_of_ble_eq_true rfl, Nat.le_of_ble_eq_true rfl⟩) 1 1 rfl rfl rfl hl.1 rfl (Nat.le_of_ble_eq_true rfl) dX2_startAgain_39 ⟨Nat.zero_le _, Nat.zero_le _⟩ hP hD hS (fun H locs hP hD hS => ?_)
  refine lv_if_gt (tgt := 60) hx hb dX2_startAgain_42 (by decide) (fun c7 => ?_) (fun c7 => ?_)
  · have hf := ift c7 hf
    refine lv_iconst (v := zI 1) hx hb dX2_startAgain_60 (by decide) ?_
    refine lv_goto (tgt := 65) hx hb dX2_startAgain_61 (by decide) ?_
    cases hf
    exact vz_zret X rfl hP hD hS dX2_startAgain_65
  · have hf := iff_ c7 hf
    refine lv_aload_n hx hb dX2_startAgain_45 rfl (lv_at hl 0 rfl) ?_
    refine lv_aload_n hx hb dX2_startAgain_46 rfl (lv_at hl 0 rfl) ?_
    refine va_get (D := D) (ci := 2) (v := .ref (a 1)) (C := RX2) (T := TX2) (N := 4) hx hb hts in_X2_startAgain_X2 hown hK hP 0 rfl rfl 0 (by decide) (hts _ (List.mem_of_getElem? (i := 2) rfl)) (fun _ h9 => h9) rfl dX2_startAgain_47 ?_
    refine lv_iconst (v := zI 0) hx hb dX2_startAgain_50 (by decide) ?_
    obtain ⟨z8, hz9, hf⟩ := bd hf
    refine vz_call (rest := [.ref (a 0)]) X (kX1_victim hz9) (cwV 1 hts gX2_startAgain_X1_victim rfl rfl rfl (by decide +kernel) ⟨Nat.le_of_ble_eq_true rfl, Nat.le_of_ble_eq_true rfl⟩) 1 1 rfl rfl rfl hl.1 rfl (Nat.le_of_ble_eq_true rfl) dX2_startAgain_51 ⟨Nat.zero_le _, Nat.zero_le _⟩ hP hD hS (fun H locs hP hD hS => ?_)
    obtain ⟨z10, hz11, hf⟩ := bd hf
    refine vz_call (rest := []) X (kX2_collect hz11) (cwV 1 hts gX2_startAgain_X2_collect rfl rfl rfl (by decide +kernel) ⟨Nat.le_of_ble_eq_true rfl, Nat.le_of_ble_eq_true rfl⟩) 0 2 rfl rfl rfl hl.1 rfl (Nat.le_of_ble_eq_true rfl) dX2_startAgain_54 ⟨Nat.zero_le _, Nat.zero_le _⟩ hP hD hS (fun H locs hP hD hS => ?_)
    refine lv_if_eq (tgt := 64) hx hb dX2_startAgain_57 (by decide) (fun c12 => ?_) (fun c12 => ?_)
    · have hf := ift c12 hf
      refine lv_iconst (v := zI 0) hx hb dX2_startAgain_64 (by decide) ?_
      cases hf
      exact vz_zret X rfl hP hD hS dX2_startAgain_65
    · have hf := iff_ c12 hf
      refine lv_iconst (v := zI 1) hx hb dX2_startAgain_60 (by decide) ?_
      refine lv_goto (tgt := 65) hx hb dX2_startAgain_61 (by decide) ?_
      cases hf
      exact vz_zret X rfl hP hD hS dX2_startAgain_65
end
theorem kX2_startAgain {l : Launch} {D : va_G} {a n : Nat → Nat} {cA : Nat → ClassId} {K : Nat} {u : XU} {r : Int32} {u2 : XU} (h : fX2_startAgain n K u = some (r, u2)) : vzC l D (XT cA) (XW a n cA) yX2_startAgain wsX2_startAgain rmX2_startAgain [.ref (a 0)] u r u2 := vzC.of (by decide) rfl (Nat.le_of_ble_eq_true rfl) (fun p e s m below meth c A ls X hP hD hl => lbX2_startAgain_e X u s.heap [] ls r u2 h hP hD va_S.rf hl)
abbrev rmX2_losePower : Room := { frames := 4, cells := 0, slots := 0, locals := 91 }
theorem in_X2_losePower_X2 : ∀ w ∈ u_ws RX2 TX2 4, w ∈ wsX2_losePower := fun _ h => List.mem_cons_of_mem _ (List.mem_append_left _ (List.mem_append_left _ (List.mem_append_right _ h)))
theorem in_X2_losePower_X0 : ∀ w ∈ u_ws RX0 TX0 4, w ∈ wsX2_losePower := fun _ h => List.mem_cons_of_mem _ (List.mem_append_left _ (List.mem_append_right _ h))
theorem in_X2_losePower_X1 : ∀ w ∈ u_ws RX1 TX1 11, w ∈ wsX2_losePower := fun _ h => List.mem_cons_of_mem _ (List.mem_append_right _ h)
def fX2_losePower (n : Nat → Nat) (K : Nat) (u : XU) : Option XU := (fX2_startAgain n K u).bind fun z1 => (if z1.1 = 0 then ((fX2_startAgain n K z1.2).bind fun z4 => (some z4.2)) else (some z1.2))
section
variable {p : Program} {l : Launch} {e : Env} {s : State} {m : MethodId} {args : Array Value} {below : List Frame} {meth : Method} {c : Code} {D : va_G} {a n : Nat → Nat} {cA : Nat → ClassId} {A : Nat → Prop}
set_option maxHeartbeats 4000000 in
set_option maxRecDepth 100000 in
theorem lbX2_losePower_e {K : Nat} (X : vzX D (XT cA) A wsX2_losePower cX2_losePower 1 none RX2 p s m args meth c) : ∀ (u : XU) (H : Heap) (locs : List Loc) (ls : Array Slot) (u2 : XU), fX2_losePower n K u = some u2 → va_P D vwCl (XW a n cA u) H → va_D A (XW a n cA u) → va_S A s.heap H locs → lv_has ls 1 [(0, .ref (a 0))] → W p l e (headSpec wsX2_losePower rmX2_losePower).room s m args below meth c H locs 0 0 (MQ below (vzQv D (XT cA) (XW a n cA) A u2) args s 0 0 A) (F0 m 0 ls []) := by
  obtain ⟨hx, hb, hr, hml, hown, hts, hlk, hN, hK, hA⟩ := id X
  intro u H locs ls u2 hf hP hD hS hl
  unfold fX2_losePower at hf
  refine lv_aload_n hx hb dX2_losePower_0 rfl (lv_at hl 0 rfl) ?_
  obtain ⟨z1, hz2, hf⟩ := bd hf
  refine vz_call (rest := []) X (kX2_startAgain hz2) (cwV 0 hts gX2_losePower_X2_startAgain rfl rfl rfl (by decide +kernel) ⟨Nat.le_of_ble_eq_true rfl, Nat.le_of_ble_eq_true rfl⟩) 0 2 rfl rfl rfl hl.1 rfl (Nat.le_of_ble_eq_true rfl) dX2_losePower_1 ⟨Nat.zero_le _, Nat.zero_le _⟩ hP hD hS (fun H locs hP hD hS => ?_)
  refine lv_if_ne (tgt := 12) hx hb dX2_losePower_4 (by decide) (fun c3 => ?_) (fun c3 => ?_)
  · have hf := iff_ c3 hf
    cases hf
    exact vz_vret X hP hD hS dX2_losePower_12
  · have hf := ift c3 hf
    refine lv_aload_n hx hb dX2_losePower_7 rfl (lv_at hl 0 rfl) ?_
    obtain ⟨z4, hz5, hf⟩ := bd hf
    refine vz_call (rest := []) X (kX2_startAgain hz5) (cwV 0 hts gX2_losePower_X2_startAgain rfl rfl rfl (by decide +kernel) ⟨Nat.le_of_ble_eq_true rfl, Nat.le_of_ble_eq_true rfl⟩) 0 2 rfl rfl rfl hl.1 rfl (Nat.le_of_ble_eq_true rfl) dX2_losePower_8 ⟨Nat.zero_le _, Nat.zero_le _⟩ hP hD hS (fun H locs hP hD hS => ?_)
    refine lv_pop hx hb dX2_losePower_11 rfl ?_
    cases hf
    exact vz_vret X hP hD hS dX2_losePower_12
end
theorem kX2_losePower {l : Launch} {D : va_G} {a n : Nat → Nat} {cA : Nat → ClassId} {K : Nat} {u : XU} {u2 : XU} (h : fX2_losePower n K u = some u2) : vzV l D (XT cA) (XW a n cA) yX2_losePower wsX2_losePower rmX2_losePower [.ref (a 0)] u u2 := vzV.of (by decide) rfl (Nat.le_of_ble_eq_true rfl) (fun p e s m below meth c A ls X hP hD hl => lbX2_losePower_e X u s.heap [] ls u2 h hP hD va_S.rf hl)
abbrev rmX2_put : Room := { frames := 5, cells := 0, slots := 0, locals := 115 }
theorem in_X2_put_X2 : ∀ w ∈ u_ws RX2 TX2 4, w ∈ wsX2_put := fun _ h => List.mem_cons_of_mem _ (List.mem_append_left _ (List.mem_append_left _ (List.mem_append_right _ h)))
theorem in_X2_put_X1 : ∀ w ∈ u_ws RX1 TX1 11, w ∈ wsX2_put := fun _ h => List.mem_cons_of_mem _ (List.mem_append_left _ (List.mem_append_right _ h))
theorem in_X2_put_X0 : ∀ w ∈ u_ws RX0 TX0 4, w ∈ wsX2_put := fun _ h => List.mem_cons_of_mem _ (List.mem_append_right _ h)
def fX2_put (n : Nat → Nat) (K : Nat) (x1 x2 x3 : Int32) (u : XU) : Option (Int32 × XU) := (fX2_isSector n K x1 u).bind fun z1 => (if z1.1 = 0 then (some (zI (-1), z1.2)) else ((fX0_find n K x1 z1.2).bind fun z4 => (if z4.1 = (zI (-1)) then ((fX0_isFull n K z4.2).bind fun z7 => (if z7.1 = 0 then ((fX0_add n K x1 x2 x3 z7.2).bind fun z10 => (some (zI 0, z10))) else ((fX2_storeFirst n K z7.2).bind fun z12 => (if z12.1 = 0 then ((fX2_losePower n K z12.2).bind fun z17 => (some (zI 1, z17))) else ((fX0_add n K x1 x2 x3 z12.2).bind fun z15 => (some (zI 0, z15))))))) else ((fX0_change n K z4.1 x2 x3 z4.2).bind fun z19 => (some (zI 0, z19))))))
section
variable {p : Program} {l : Launch} {e : Env} {s : State} {m : MethodId} {args : Array Value} {below : List Frame} {meth : Method} {c : Code} {D : va_G} {a n : Nat → Nat} {cA : Nat → ClassId} {A : Nat → Prop}
set_option maxHeartbeats 4000000 in
set_option maxRecDepth 100000 in
theorem lbX2_put_e {K : Nat} (X : vzX D (XT cA) A wsX2_put cX2_put 5 (some .int) RX2 p s m args meth c) : ∀ (x1 x2 x3 : Int32) (u : XU) (H : Heap) (locs : List Loc) (ls : Array Slot) (r : Int32) (u2 : XU), fX2_put n K x1 x2 x3 u = some (r, u2) → va_P D vwCl (XW a n cA u) H → va_D A (XW a n cA u) → va_S A s.heap H locs → lv_has ls 5 [(0, .ref (a 0)), (1, .int x1), (2, .int x2), (3, .int x3)] → W p l e (headSpec wsX2_put rmX2_put).room s m args below meth c H locs 0 0 (MQ below (vzQ D (XT cA) (XW a n cA) A r u2) args s 0 0 A) (F0 m 0 ls []) := by
  obtain ⟨hx, hb, hr, hml, hown, hts, hlk, hN, hK, hA⟩ := id X
  intro x1 x2 x3 u H locs ls r u2 hf hP hD hS hl
  unfold fX2_put at hf
  refine lv_aload_n hx hb dX2_put_0 rfl (lv_at hl 0 rfl) ?_
  refine lv_iload_n hx hb dX2_put_1 rfl (lv_at hl 1 rfl) ?_
  obtain ⟨z1, hz2, hf⟩ := bd hf
  refine vz_call (rest := []) X (kX2_isSector hz2) (cwV 1 hts gX2_put_X2_isSector rfl rfl rfl (by decide +kernel) ⟨Nat.le_of_ble_eq_true rfl, Nat.le_of_ble_eq_true rfl⟩) 0 2 rfl rfl rfl hl.1 rfl (Nat.le_of_ble_eq_true rfl) dX2_put_2 ⟨Nat.zero_le _, Nat.zero_le _⟩ hP hD hS (fun H locs hP hD hS => ?_)
  refine lv_if_ne (tgt := 10) hx hb dX2_put_5 (by decide) (fun c3 => ?_) (fun c3 => ?_)
  · have hf := iff_ c3 hf
    refine lv_aload_n hx hb dX2_put_10 rfl (lv_at hl 0 rfl) ?_
    refine va_get (D := D) (ci := 2) (v := .ref (a 2)) (C := RX2) (T := TX2) (N := 4) hx hb hts in_X2_put_X2 hown hK hP 0 rfl rfl 1 (by decide) (hts _ (List.mem_of_getElem? (i := 1) rfl)) (fun _ h9 => h9) rfl dX2_put_11 ?_
    refine lv_iload_n hx hb dX2_put_14 rfl (lv_at hl 1 rfl) ?_
    obtain ⟨z4, hz5, hf⟩ := bd hf
    refine vz_call (rest := []) X (kX0_find hz5) (cwV 1 hts gX2_put_X0_find rfl rfl rfl (by decide +kernel) ⟨Nat.le_of_ble_eq_true rfl, Nat.le_of_ble_eq_true rfl⟩) 2 0 rfl rfl rfl hl.1 rfl (Nat.le_of_ble_eq_true rfl) dX2_put_15 ⟨Nat.zero_le _, Nat.zero_le _⟩ hP hD hS (fun H locs hP hD hS => ?_)
    refine lv_istore (lv' := [(4, .int z4.1), (0, .ref (a 0)), (1, .int x1), (2, .int x2), (3, .int x3)]) hx hb dX2_put_18 hl (by decide) rfl (fun ls hl => ?_)
    refine lv_iload hx hb dX2_put_20 (lv_at hl 0 rfl) ?_
    refine lv_iconst (v := zI (-1)) hx hb dX2_put_22 (by decide) ?_
    refine lv_icmp_eq (tgt := 39) hx hb dX2_put_23 (by decide) (fun c6 => ?_) (fun c6 => ?_)
    · have hf := ift c6 hf
      refine lv_aload_n hx hb dX2_put_39 rfl (lv_at hl 1 rfl) ?_
      refine va_get (D := D) (ci := 2) (v := .ref (a 2)) (C := RX2) (T := TX2) (N := 4) hx hb hts in_X2_put_X2 hown hK hP 0 rfl rfl 1 (by decide) (hts _ (List.mem_of_getElem? (i := 1) rfl)) (fun _ h9 => h9) rfl dX2_put_40 ?_
      obtain ⟨z7, hz8, hf⟩ := bd hf
      refine vz_call (rest := []) X (kX0_isFull hz8) (cwV 0 hts gX2_put_X0_isFull rfl rfl rfl (by decide +kernel) ⟨Nat.le_of_ble_eq_true rfl, Nat.le_of_ble_eq_true rfl⟩) 2 0 rfl rfl rfl hl.1 rfl (Nat.le_of_ble_eq_true rfl) dX2_put_43 ⟨Nat.zero_le _, Nat.zero_le _⟩ hP hD hS (fun H locs hP hD hS => ?_)
      refine lv_if_eq (tgt := 62) hx hb dX2_put_46 (by decide) (fun c9 => ?_) (fun c9 => ?_)
      · have hf := ift c9 hf
        refine lv_aload_n hx hb dX2_put_62 rfl (lv_at hl 1 rfl) ?_
        refine va_get (D := D) (ci := 2) (v := .ref (a 2)) (C := RX2) (T := TX2) (N := 4) hx hb hts in_X2_put_X2 hown hK hP 0 rfl rfl 1 (by decide) (hts _ (List.mem_of_getElem? (i := 1) rfl)) (fun _ h9 => h9) rfl dX2_put_63 ?_
        refine lv_iload_n hx hb dX2_put_66 rfl (lv_at hl 2 rfl) ?_
        refine lv_iload_n hx hb dX2_put_67 rfl (lv_at hl 3 rfl) ?_
        refine lv_iload_n hx hb dX2_put_68 rfl (lv_at hl 4 rfl) ?_
        obtain ⟨z10, hz11, hf⟩ := bd hf
        refine vz_callv (rest := []) X (kX0_add hz11) (cwV 3 hts gX2_put_X0_add rfl rfl rfl (by decide +kernel) ⟨Nat.le_of_ble_eq_true rfl, Nat.le_of_ble_eq_true rfl⟩) 2 0 rfl rfl rfl hl.1 rfl (Nat.le_of_ble_eq_true rfl) dX2_put_69 ⟨Nat.zero_le _, Nat.zero_le _⟩ hP hD hS (fun H locs hP hD hS => ?_)
        refine lv_iconst (v := zI 0) hx hb dX2_put_72 (by decide) ?_
        cases hf
        exact vz_iret X hP hD hS dX2_put_73
      · have hf := iff_ c9 hf
        refine lv_aload_n hx hb dX2_put_49 rfl (lv_at hl 1 rfl) ?_
        obtain ⟨z12, hz13, hf⟩ := bd hf
        refine vz_call (rest := []) X (kX2_storeFirst hz13) (cwV 0 hts gX2_put_X2_storeFirst rfl rfl rfl (by decide +kernel) ⟨Nat.le_of_ble_eq_true rfl, Nat.le_of_ble_eq_true rfl⟩) 0 2 rfl rfl rfl hl.1 rfl (Nat.le_of_ble_eq_true rfl) dX2_put_50 ⟨Nat.zero_le _, Nat.zero_le _⟩ hP hD hS (fun H locs hP hD hS => ?_)
        refine lv_if_ne (tgt := 62) hx hb dX2_put_53 (by decide) (fun c14 => ?_) (fun c14 => ?_)
        · have hf := iff_ c14 hf
          refine lv_aload_n hx hb dX2_put_62 rfl (lv_at hl 1 rfl) ?_
          refine va_get (D := D) (ci := 2) (v := .ref (a 2)) (C := RX2) (T := TX2) (N := 4) hx hb hts in_X2_put_X2 hown hK hP 0 rfl rfl 1 (by decide) (hts _ (List.mem_of_getElem? (i := 1) rfl)) (fun _ h9 => h9) rfl dX2_put_63 ?_
          refine lv_iload_n hx hb dX2_put_66 rfl (lv_at hl 2 rfl) ?_
          refine lv_iload_n hx hb dX2_put_67 rfl (lv_at hl 3 rfl) ?_
          refine lv_iload_n hx hb dX2_put_68 rfl (lv_at hl 4 rfl) ?_
          obtain ⟨z15, hz16, hf⟩ := bd hf
          refine vz_callv (rest := []) X (kX0_add hz16) (cwV 3 hts gX2_put_X0_add rfl rfl rfl (by decide +kernel) ⟨Nat.le_of_ble_eq_true rfl, Nat.le_of_ble_eq_true rfl⟩) 2 0 rfl rfl rfl hl.1 rfl (Nat.le_of_ble_eq_true rfl) dX2_put_69 ⟨Nat.zero_le _, Nat.zero_le _⟩ hP hD hS (fun H locs hP hD hS => ?_)
          refine lv_iconst (v := zI 0) hx hb dX2_put_72 (by decide) ?_
          cases hf
          exact vz_iret X hP hD hS dX2_put_73
        · have hf := ift c14 hf
          refine lv_aload_n hx hb dX2_put_56 rfl (lv_at hl 1 rfl) ?_
          obtain ⟨z17, hz18, hf⟩ := bd hf
          refine vz_callv (rest := []) X (kX2_losePower hz18) (cwV 0 hts gX2_put_X2_losePower rfl rfl rfl (by decide +kernel) ⟨Nat.le_of_ble_eq_true rfl, Nat.le_of_ble_eq_true rfl⟩) 0 2 rfl rfl rfl hl.1 rfl (Nat.le_of_ble_eq_true rfl) dX2_put_57 ⟨Nat.zero_le _, Nat.zero_le _⟩ hP hD hS (fun H locs hP hD hS => ?_)
          refine lv_iconst (v := zI 1) hx hb dX2_put_60 (by decide) ?_
          cases hf
          exact vz_iret X hP hD hS dX2_put_61
    · have hf := iff_ c6 hf
      refine lv_aload_n hx hb dX2_put_26 rfl (lv_at hl 1 rfl) ?_
      refine va_get (D := D) (ci := 2) (v := .ref (a 2)) (C := RX2) (T := TX2) (N := 4) hx hb hts in_X2_put_X2 hown hK hP 0 rfl rfl 1 (by decide) (hts _ (List.mem_of_getElem? (i := 1) rfl)) (fun _ h9 => h9) rfl dX2_put_27 ?_
      refine lv_iload hx hb dX2_put_30 (lv_at hl 0 rfl) ?_
      refine lv_iload_n hx hb dX2_put_32 rfl (lv_at hl 3 rfl) ?_
      refine lv_iload_n hx hb dX2_put_33 rfl (lv_at hl 4 rfl) ?_
      obtain ⟨z19, hz20, hf⟩ := bd hf
      refine vz_callv (rest := []) X (kX0_change hz20) (cwV 3 hts gX2_put_X0_change rfl rfl rfl (by decide +kernel) ⟨Nat.le_of_ble_eq_true rfl, Nat.le_of_ble_eq_true rfl⟩) 2 0 rfl rfl rfl hl.1 rfl (Nat.le_of_ble_eq_true rfl) dX2_put_34 ⟨Nat.zero_le _, Nat.zero_le _⟩ hP hD hS (fun H locs hP hD hS => ?_)
      refine lv_iconst (v := zI 0) hx hb dX2_put_37 (by decide) ?_
      cases hf
      exact vz_iret X hP hD hS dX2_put_38
  · have hf := ift c3 hf
    refine lv_iconst (v := zI (-1)) hx hb dX2_put_8 (by decide) ?_
    cases hf
    exact vz_iret X hP hD hS dX2_put_9
end
theorem kX2_put {l : Launch} {D : va_G} {a n : Nat → Nat} {cA : Nat → ClassId} {K : Nat} {x1 x2 x3 : Int32} {u : XU} {r : Int32} {u2 : XU} (h : fX2_put n K x1 x2 x3 u = some (r, u2)) : vzC l D (XT cA) (XW a n cA) yX2_put wsX2_put rmX2_put [.ref (a 0), .int x1, .int x2, .int x3] u r u2 := vzC.of (by decide) rfl (Nat.le_of_ble_eq_true rfl) (fun p e s m below meth c A ls X hP hD hl => lbX2_put_e X x1 x2 x3 u s.heap [] ls r u2 h hP hD va_S.rf hl)
abbrev rmX2_write : Room := { frames := 6, cells := 0, slots := 0, locals := 139 }
theorem in_X2_write_X2 : ∀ w ∈ u_ws RX2 TX2 4, w ∈ wsX2_write := fun _ h => List.mem_cons_of_mem _ (List.mem_append_left _ (List.mem_append_left _ (List.mem_append_right _ h)))
theorem in_X2_write_X1 : ∀ w ∈ u_ws RX1 TX1 11, w ∈ wsX2_write := fun _ h => List.mem_cons_of_mem _ (List.mem_append_left _ (List.mem_append_right _ h))
theorem in_X2_write_X0 : ∀ w ∈ u_ws RX0 TX0 4, w ∈ wsX2_write := fun _ h => List.mem_cons_of_mem _ (List.mem_append_right _ h)
def fX2_write (n : Nat → Nat) (K : Nat) (x1 x2 : Int32) (u : XU) : Option (Int32 × XU) := (fX2_put n K x1 x2 (zI 1) u).bind fun z1 => (some (z1.1, z1.2))
section
variable {p : Program} {l : Launch} {e : Env} {s : State} {m : MethodId} {args : Array Value} {below : List Frame} {meth : Method} {c : Code} {D : va_G} {a n : Nat → Nat} {cA : Nat → ClassId} {A : Nat → Prop}
set_option maxHeartbeats 4000000 in
set_option maxRecDepth 100000 in
theorem lbX2_write_e {K : Nat} (X : vzX D (XT cA) A wsX2_write cX2_write 3 (some .int) RX2 p s m args meth c) : ∀ (x1 x2 : Int32) (u : XU) (H : Heap) (locs : List Loc) (ls : Array Slot) (r : Int32) (u2 : XU), fX2_write n K x1 x2 u = some (r, u2) → va_P D vwCl (XW a n cA u) H → va_D A (XW a n cA u) → va_S A s.heap H locs → lv_has ls 3 [(0, .ref (a 0)), (1, .int x1), (2, .int x2)] → W p l e (headSpec wsX2_write rmX2_write).room s m args below meth c H locs 0 0 (MQ below (vzQ D (XT cA) (XW a n cA) A r u2) args s 0 0 A) (F0 m 0 ls []) := by
  obtain ⟨hx, hb, hr, hml, hown, hts, hlk, hN, hK, hA⟩ := id X
  intro x1 x2 u H locs ls r u2 hf hP hD hS hl
  unfold fX2_write at hf
  refine lv_aload_n hx hb dX2_write_0 rfl (lv_at hl 0 rfl) ?_
  refine lv_iload_n hx hb dX2_write_1 rfl (lv_at hl 1 rfl) ?_
  refine lv_iload_n hx hb dX2_write_2 rfl (lv_at hl 2 rfl) ?_
  refine lv_iconst (v := zI 1) hx hb dX2_write_3 (by decide) ?_
  obtain ⟨z1, hz2, hf⟩ := bd hf
  refine vz_call (rest := []) X (kX2_put hz2) (cwV 3 hts gX2_write_X2_put rfl rfl rfl (by decide +kernel) ⟨Nat.le_of_ble_eq_true rfl, Nat.le_of_ble_eq_true rfl⟩) 0 2 rfl rfl rfl hl.1 rfl (Nat.le_of_ble_eq_true rfl) dX2_write_4 ⟨Nat.zero_le _, Nat.zero_le _⟩ hP hD hS (fun H locs hP hD hS => ?_)
  cases hf
  exact vz_iret X hP hD hS dX2_write_7
end
theorem kX2_write {l : Launch} {D : va_G} {a n : Nat → Nat} {cA : Nat → ClassId} {K : Nat} {x1 x2 : Int32} {u : XU} {r : Int32} {u2 : XU} (h : fX2_write n K x1 x2 u = some (r, u2)) : vzC l D (XT cA) (XW a n cA) yX2_write wsX2_write rmX2_write [.ref (a 0), .int x1, .int x2] u r u2 := vzC.of (by decide) rfl (Nat.le_of_ble_eq_true rfl) (fun p e s m below meth c A ls X hP hD hl => lbX2_write_e X x1 x2 u s.heap [] ls r u2 h hP hD va_S.rf hl)
abbrev rmX2_trim : Room := { frames := 6, cells := 0, slots := 0, locals := 139 }
theorem in_X2_trim_X2 : ∀ w ∈ u_ws RX2 TX2 4, w ∈ wsX2_trim := fun _ h => List.mem_cons_of_mem _ (List.mem_append_left _ (List.mem_append_left _ (List.mem_append_right _ h)))
theorem in_X2_trim_X1 : ∀ w ∈ u_ws RX1 TX1 11, w ∈ wsX2_trim := fun _ h => List.mem_cons_of_mem _ (List.mem_append_left _ (List.mem_append_right _ h))
theorem in_X2_trim_X0 : ∀ w ∈ u_ws RX0 TX0 4, w ∈ wsX2_trim := fun _ h => List.mem_cons_of_mem _ (List.mem_append_right _ h)
def fX2_trim (n : Nat → Nat) (K : Nat) (x1 : Int32) (u : XU) : Option (Int32 × XU) := (fX2_put n K x1 (zI 0) (zI 2) u).bind fun z1 => (some (z1.1, z1.2))
section
variable {p : Program} {l : Launch} {e : Env} {s : State} {m : MethodId} {args : Array Value} {below : List Frame} {meth : Method} {c : Code} {D : va_G} {a n : Nat → Nat} {cA : Nat → ClassId} {A : Nat → Prop}
set_option maxHeartbeats 4000000 in
set_option maxRecDepth 100000 in
theorem lbX2_trim_e {K : Nat} (X : vzX D (XT cA) A wsX2_trim cX2_trim 2 (some .int) RX2 p s m args meth c) : ∀ (x1 : Int32) (u : XU) (H : Heap) (locs : List Loc) (ls : Array Slot) (r : Int32) (u2 : XU), fX2_trim n K x1 u = some (r, u2) → va_P D vwCl (XW a n cA u) H → va_D A (XW a n cA u) → va_S A s.heap H locs → lv_has ls 2 [(0, .ref (a 0)), (1, .int x1)] → W p l e (headSpec wsX2_trim rmX2_trim).room s m args below meth c H locs 0 0 (MQ below (vzQ D (XT cA) (XW a n cA) A r u2) args s 0 0 A) (F0 m 0 ls []) := by
  obtain ⟨hx, hb, hr, hml, hown, hts, hlk, hN, hK, hA⟩ := id X
  intro x1 u H locs ls r u2 hf hP hD hS hl
  unfold fX2_trim at hf
  refine lv_aload_n hx hb dX2_trim_0 rfl (lv_at hl 0 rfl) ?_
  refine lv_iload_n hx hb dX2_trim_1 rfl (lv_at hl 1 rfl) ?_
  refine lv_iconst (v := zI 0) hx hb dX2_trim_2 (by decide) ?_
  refine lv_iconst (v := zI 2) hx hb dX2_trim_3 (by decide) ?_
  obtain ⟨z1, hz2, hf⟩ := bd hf
  refine vz_call (rest := []) X (kX2_put hz2) (cwV 3 hts gX2_trim_X2_put rfl rfl rfl (by decide +kernel) ⟨Nat.le_of_ble_eq_true rfl, Nat.le_of_ble_eq_true rfl⟩) 0 2 rfl rfl rfl hl.1 rfl (Nat.le_of_ble_eq_true rfl) dX2_trim_4 ⟨Nat.zero_le _, Nat.zero_le _⟩ hP hD hS (fun H locs hP hD hS => ?_)
  cases hf
  exact vz_iret X hP hD hS dX2_trim_7
end
theorem kX2_trim {l : Launch} {D : va_G} {a n : Nat → Nat} {cA : Nat → ClassId} {K : Nat} {x1 : Int32} {u : XU} {r : Int32} {u2 : XU} (h : fX2_trim n K x1 u = some (r, u2)) : vzC l D (XT cA) (XW a n cA) yX2_trim wsX2_trim rmX2_trim [.ref (a 0), .int x1] u r u2 := vzC.of (by decide) rfl (Nat.le_of_ble_eq_true rfl) (fun p e s m below meth c A ls X hP hD hl => lbX2_trim_e X x1 u s.heap [] ls r u2 h hP hD va_S.rf hl)
abbrev rmX2_flush : Room := { frames := 5, cells := 0, slots := 0, locals := 115 }
theorem in_X2_flush_X2 : ∀ w ∈ u_ws RX2 TX2 4, w ∈ wsX2_flush := fun _ h => List.mem_cons_of_mem _ (List.mem_append_left _ (List.mem_append_left _ (List.mem_append_right _ h)))
theorem in_X2_flush_X0 : ∀ w ∈ u_ws RX0 TX0 4, w ∈ wsX2_flush := fun _ h => List.mem_cons_of_mem _ (List.mem_append_left _ (List.mem_append_right _ h))
theorem in_X2_flush_X1 : ∀ w ∈ u_ws RX1 TX1 11, w ∈ wsX2_flush := fun _ h => List.mem_cons_of_mem _ (List.mem_append_right _ h)
def fX2_flush_8 (n : Nat → Nat) (K : Nat) : Nat → Int32 → XU → Option (Int32 × XU)
  | 0, _, _ => none
  | N + 1, x1, u => if x1 ≤ 0 then (some (zI 0, u)) else ((fX2_storeFirst n K u).bind fun z2 => (if z2.1 = 0 then ((fX2_losePower n K z2.2).bind fun z5 => (some (zI 1, z5))) else (fX2_flush_8 n K N (x1 + (zI (-1))) z2.2)))
def fX2_flush (n : Nat → Nat) (K : Nat) (u : XU) : Option (Int32 × XU) := fX2_flush_8 n K K (xu_cnt u) u
section
variable {p : Program} {l : Launch} {e : Env} {s : State} {m : MethodId} {args : Array Value} {below : List Frame} {meth : Method} {c : Code} {D : va_G} {a n : Nat → Nat} {cA : Nat → ClassId} {A : Nat → Prop}
set_option maxHeartbeats 4000000 in
set_option maxRecDepth 100000 in
theorem lbX2_flush_8 {K : Nat} (X : vzX D (XT cA) A wsX2_flush cX2_flush 2 (some .int) RX2 p s m args meth c) : ∀ (N : Nat) (x1 : Int32) (u : XU) (H : Heap) (locs : List Loc) (ls : Array Slot) (r : Int32) (u2 : XU), fX2_flush_8 n K N x1 u = some (r, u2) → va_P D vwCl (XW a n cA u) H → va_D A (XW a n cA u) → va_S A s.heap H locs → lv_has ls 2 [(0, .ref (a 0)), (1, .int x1)] → W p l e (headSpec wsX2_flush rmX2_flush).room s m args below meth c H locs 0 0 (MQ below (vzQ D (XT cA) (XW a n cA) A r u2) args s 0 0 A) (F0 m 8 ls []) := by
  obtain ⟨hx, hb, hr, hml, hown, hts, hlk, hN, hK, hA⟩ := id X
  intro N
  induction N with
  | zero =>
    intro x1 u H locs ls r u2 hf
    cases hf
  | succ N ih =>
    intro x1 u H locs ls r u2 hf hP hD hS hl
    rw [fX2_flush_8] at hf
    refine lv_iload_n hx hb dX2_flush_8 rfl (lv_at hl 1 rfl) ?_
    refine lv_if_le (tgt := 31) hx hb dX2_flush_9 (by decide) (fun c1 => ?_) (fun c1 => ?_)
    · have hf := ift c1 hf
      refine lv_iconst (v := zI 0) hx hb dX2_flush_31 (by decide) ?_
      cases hf
      exact vz_iret X hP hD hS dX2_flush_32
    · have hf := iff_ c1 hf
      refine lv_aload_n hx hb dX2_flush_12 rfl (lv_at hl 0 rfl) ?_
      obtain ⟨z2, hz3, hf⟩ := bd hf
      refine vz_call (rest := []) X (kX2_storeFirst hz3) (cwV 0 hts gX2_flush_X2_storeFirst rfl rfl rfl (by decide +kernel) ⟨Nat.le_of_ble_eq_true rfl, Nat.le_of_ble_eq_true rfl⟩) 0 2 rfl rfl rfl hl.1 rfl (Nat.le_of_ble_eq_true rfl) dX2_flush_13 ⟨Nat.zero_le _, Nat.zero_le _⟩ hP hD hS (fun H locs hP hD hS => ?_)
      refine lv_if_ne (tgt := 25) hx hb dX2_flush_16 (by decide) (fun c4 => ?_) (fun c4 => ?_)
      · have hf := iff_ c4 hf
        refine lv_iinc (v := x1 + (zI (-1))) (lv' := [(1, .int (x1 + (zI (-1)))), (0, .ref (a 0))]) hx hb dX2_flush_25 hl (k := 1) rfl rfl (by decide) rfl (fun ls hl => ?_)
        refine lv_goto (tgt := 8) hx hb dX2_flush_28 (by decide) ?_
        exact ih (x1 + (zI (-1))) z2.2 _ _ _ _ _ hf hP hD hS (lv_sub hl [1, 0] rfl)
      · have hf := ift c4 hf
        refine lv_aload_n hx hb dX2_flush_19 rfl (lv_at hl 0 rfl) ?_
        obtain ⟨z5, hz6, hf⟩ := bd hf
        refine vz_callv (rest := []) X (kX2_losePower hz6) (cwV 0 hts gX2_flush_X2_losePower rfl rfl rfl (by decide +kernel) ⟨Nat.le_of_ble_eq_true rfl, Nat.le_of_ble_eq_true rfl⟩) 0 2 rfl rfl rfl hl.1 rfl (Nat.le_of_ble_eq_true rfl) dX2_flush_20 ⟨Nat.zero_le _, Nat.zero_le _⟩ hP hD hS (fun H locs hP hD hS => ?_)
        refine lv_iconst (v := zI 1) hx hb dX2_flush_23 (by decide) ?_
        cases hf
        exact vz_iret X hP hD hS dX2_flush_24
set_option maxHeartbeats 4000000 in
set_option maxRecDepth 100000 in
theorem lbX2_flush_e {K : Nat} (X : vzX D (XT cA) A wsX2_flush cX2_flush 2 (some .int) RX2 p s m args meth c) : ∀ (u : XU) (H : Heap) (locs : List Loc) (ls : Array Slot) (r : Int32) (u2 : XU), fX2_flush n K u = some (r, u2) → va_P D vwCl (XW a n cA u) H → va_D A (XW a n cA u) → va_S A s.heap H locs → lv_has ls 2 [(0, .ref (a 0))] → W p l e (headSpec wsX2_flush rmX2_flush).room s m args below meth c H locs 0 0 (MQ below (vzQ D (XT cA) (XW a n cA) A r u2) args s 0 0 A) (F0 m 0 ls []) := by
  obtain ⟨hx, hb, hr, hml, hown, hts, hlk, hN, hK, hA⟩ := id X
  intro u H locs ls r u2 hf hP hD hS hl
  unfold fX2_flush at hf
  refine lv_aload_n hx hb dX2_flush_0 rfl (lv_at hl 0 rfl) ?_
  refine va_get (D := D) (ci := 2) (v := .ref (a 2)) (C := RX2) (T := TX2) (N := 4) hx hb hts in_X2_flush_X2 hown hK hP 0 rfl rfl 1 (by decide) (hts _ (List.mem_of_getElem? (i := 1) rfl)) (fun _ h9 => h9) rfl dX2_flush_1 ?_
  refine va_getN (D := D) (ci := 0) (v := .int (xu_cnt u)) (C := RX0) (T := TX0) (N := 4) hx hb hts in_X2_flush_X0 hown hK hP 2 rfl rfl 3 (by decide) (hN.at 12 rfl) (fun _ h9 => h9) rfl dX2_flush_4 ?_
  refine lv_istore_n (lv' := [(1, .int (xu_cnt u)), (0, .ref (a 0))]) hx hb dX2_flush_7 rfl hl (by decide) rfl (fun ls hl => ?_)
  exact lbX2_flush_8 X K (xu_cnt u) u _ _ _ _ _ hf hP hD hS (lv_sub hl [1, 0] rfl)
end
theorem kX2_flush {l : Launch} {D : va_G} {a n : Nat → Nat} {cA : Nat → ClassId} {K : Nat} {u : XU} {r : Int32} {u2 : XU} (h : fX2_flush n K u = some (r, u2)) : vzC l D (XT cA) (XW a n cA) yX2_flush wsX2_flush rmX2_flush [.ref (a 0)] u r u2 := vzC.of (by decide) rfl (Nat.le_of_ble_eq_true rfl) (fun p e s m below meth c A ls X hP hD hl => lbX2_flush_e X u s.heap [] ls r u2 h hP hD va_S.rf hl)
abbrev rmX2_cut : Room := { frames := 5, cells := 0, slots := 0, locals := 111 }
theorem in_X2_cut_X2 : ∀ w ∈ u_ws RX2 TX2 4, w ∈ wsX2_cut := fun _ h => List.mem_cons_of_mem _ (List.mem_append_left _ (List.mem_append_left _ (List.mem_append_right _ h)))
theorem in_X2_cut_X0 : ∀ w ∈ u_ws RX0 TX0 4, w ∈ wsX2_cut := fun _ h => List.mem_cons_of_mem _ (List.mem_append_left _ (List.mem_append_right _ h))
theorem in_X2_cut_X1 : ∀ w ∈ u_ws RX1 TX1 11, w ∈ wsX2_cut := fun _ h => List.mem_cons_of_mem _ (List.mem_append_right _ h)
def fX2_cut (n : Nat → Nat) (K : Nat) (u : XU) : Option XU := (fX2_losePower n K u).bind fun z1 => (some z1)
section
variable {p : Program} {l : Launch} {e : Env} {s : State} {m : MethodId} {args : Array Value} {below : List Frame} {meth : Method} {c : Code} {D : va_G} {a n : Nat → Nat} {cA : Nat → ClassId} {A : Nat → Prop}
set_option maxHeartbeats 4000000 in
set_option maxRecDepth 100000 in
theorem lbX2_cut_e {K : Nat} (X : vzX D (XT cA) A wsX2_cut cX2_cut 1 none RX2 p s m args meth c) : ∀ (u : XU) (H : Heap) (locs : List Loc) (ls : Array Slot) (u2 : XU), fX2_cut n K u = some u2 → va_P D vwCl (XW a n cA u) H → va_D A (XW a n cA u) → va_S A s.heap H locs → lv_has ls 1 [(0, .ref (a 0))] → W p l e (headSpec wsX2_cut rmX2_cut).room s m args below meth c H locs 0 0 (MQ below (vzQv D (XT cA) (XW a n cA) A u2) args s 0 0 A) (F0 m 0 ls []) := by
  obtain ⟨hx, hb, hr, hml, hown, hts, hlk, hN, hK, hA⟩ := id X
  intro u H locs ls u2 hf hP hD hS hl
  unfold fX2_cut at hf
  refine lv_aload_n hx hb dX2_cut_0 rfl (lv_at hl 0 rfl) ?_
  obtain ⟨z1, hz2, hf⟩ := bd hf
  refine vz_callv (rest := []) X (kX2_losePower hz2) (cwV 0 hts gX2_cut_X2_losePower rfl rfl rfl (by decide +kernel) ⟨Nat.le_of_ble_eq_true rfl, Nat.le_of_ble_eq_true rfl⟩) 0 2 rfl rfl rfl hl.1 rfl (Nat.le_of_ble_eq_true rfl) dX2_cut_1 ⟨Nat.zero_le _, Nat.zero_le _⟩ hP hD hS (fun H locs hP hD hS => ?_)
  cases hf
  exact vz_vret X hP hD hS dX2_cut_4
end
theorem kX2_cut {l : Launch} {D : va_G} {a n : Nat → Nat} {cA : Nat → ClassId} {K : Nat} {u : XU} {u2 : XU} (h : fX2_cut n K u = some u2) : vzV l D (XT cA) (XW a n cA) yX2_cut wsX2_cut rmX2_cut [.ref (a 0)] u u2 := vzV.of (by decide) rfl (Nat.le_of_ble_eq_true rfl) (fun p e s m below meth c A ls X hP hD hl => lbX2_cut_e X u s.heap [] ls u2 h hP hD va_S.rf hl)
abbrev rmX2_fuse : Room := { frames := 0, cells := 0, slots := 0, locals := 0 }
theorem in_X2_fuse_X2 : ∀ w ∈ u_ws RX2 TX2 4, w ∈ wsX2_fuse := fun _ h => List.mem_cons_of_mem _ (List.mem_append_left _ (List.mem_append_right _ h))
theorem in_X2_fuse_X1 : ∀ w ∈ u_ws RX1 TX1 11, w ∈ wsX2_fuse := fun _ h => List.mem_cons_of_mem _ (List.mem_append_right _ h)
def fX2_fuse (n : Nat → Nat) (K : Nat) (x1 : Int32) (u : XU) : Option (Int32 × XU) := if x1 < 0 then (some (zI 0, u)) else (if x1 ≤ (zI 1000) then (some (zI 1, xu_s_fus u x1)) else (some (zI 0, u)))
section
variable {p : Program} {l : Launch} {e : Env} {s : State} {m : MethodId} {args : Array Value} {below : List Frame} {meth : Method} {c : Code} {D : va_G} {a n : Nat → Nat} {cA : Nat → ClassId} {A : Nat → Prop}
set_option maxHeartbeats 4000000 in
set_option maxRecDepth 100000 in
theorem lbX2_fuse_e {K : Nat} (X : vzX D (XT cA) A wsX2_fuse cX2_fuse 2 (some .boolean) RX2 p s m args meth c) : ∀ (x1 : Int32) (u : XU) (H : Heap) (locs : List Loc) (ls : Array Slot) (r : Int32) (u2 : XU), fX2_fuse n K x1 u = some (r, u2) → va_P D vwCl (XW a n cA u) H → va_D A (XW a n cA u) → va_S A s.heap H locs → lv_has ls 2 [(0, .ref (a 0)), (1, .int x1)] → W p l e (headSpec wsX2_fuse rmX2_fuse).room s m args below meth c H locs 0 0 (MQ below (vzQ D (XT cA) (XW a n cA) A r u2) args s 0 0 A) (F0 m 0 ls []) := by
  obtain ⟨hx, hb, hr, hml, hown, hts, hlk, hN, hK, hA⟩ := id X
  intro x1 u H locs ls r u2 hf hP hD hS hl
  unfold fX2_fuse at hf
  refine lv_iload_n hx hb dX2_fuse_0 rfl (lv_at hl 1 rfl) ?_
  refine lv_if_lt (tgt := 11) hx hb dX2_fuse_1 (by decide) (fun c1 => ?_) (fun c1 => ?_)
  · have hf := ift c1 hf
    refine lv_iconst (v := zI 0) hx hb dX2_fuse_11 (by decide) ?_
    cases hf
    exact vz_zret X rfl hP hD hS dX2_fuse_12
  · have hf := iff_ c1 hf
    refine lv_iload_n hx hb dX2_fuse_4 rfl (lv_at hl 1 rfl) ?_
    refine lv_sipush (v := zI 1000) hx hb dX2_fuse_5 (by decide) ?_
    refine lv_icmp_le (tgt := 13) hx hb dX2_fuse_8 (by decide) (fun c2 => ?_) (fun c2 => ?_)
    · have hf := ift c2 hf
      refine lv_aload_n hx hb dX2_fuse_13 rfl (lv_at hl 0 rfl) ?_
      refine va_get (D := D) (ci := 2) (v := .ref (a 1)) (C := RX2) (T := TX2) (N := 4) hx hb hts in_X2_fuse_X2 hown hK hP 0 rfl rfl 0 (by decide) (hts _ (List.mem_of_getElem? (i := 1) rfl)) (fun _ h9 => h9) rfl dX2_fuse_14 ?_
      refine lv_iload_n hx hb dX2_fuse_17 rfl (lv_at hl 1 rfl) ?_
      refine va_putN (D := D) (ci := 1) (v := .int x1) (ty := .int) (C := RX1) (T := TX1) (N := 11) hx hb hts in_X2_fuse_X1 tyX1 tyX1_ok nmX1 hown hK hP hD hS 1 rfl rfl 10 (by decide) (hN.at 8 rfl) (fun _ h9 => h9) rfl (by decide +kernel) rfl rfl (Nat.le_of_ble_eq_true rfl) dX2_fuse_18 (fun H locs hP hD hS => ?_)
      have hP : va_P D vwCl (XW a n cA (xu_s_fus u x1)) H := hP
      have hD : va_D A (XW a n cA (xu_s_fus u x1)) := hD
      refine lv_iconst (v := zI 1) hx hb dX2_fuse_21 (by decide) ?_
      cases hf
      exact vz_zret X rfl hP hD hS dX2_fuse_22
    · have hf := iff_ c2 hf
      refine lv_iconst (v := zI 0) hx hb dX2_fuse_11 (by decide) ?_
      cases hf
      exact vz_zret X rfl hP hD hS dX2_fuse_12
end
theorem kX2_fuse {l : Launch} {D : va_G} {a n : Nat → Nat} {cA : Nat → ClassId} {K : Nat} {x1 : Int32} {u : XU} {r : Int32} {u2 : XU} (h : fX2_fuse n K x1 u = some (r, u2)) : vzC l D (XT cA) (XW a n cA) yX2_fuse wsX2_fuse rmX2_fuse [.ref (a 0), .int x1] u r u2 := vzC.of (by decide) rfl (Nat.le_of_ble_eq_true rfl) (fun p e s m below meth c A ls X hP hD hl => lbX2_fuse_e X x1 u s.heap [] ls r u2 h hP hD va_S.rf hl)
abbrev rmX2_place : Room := { frames := 1, cells := 0, slots := 0, locals := 21 }
theorem in_X2_place_X2 : ∀ w ∈ u_ws RX2 TX2 4, w ∈ wsX2_place := fun _ h => List.mem_cons_of_mem _ (List.mem_append_left _ (List.mem_append_right _ h))
theorem in_X2_place_X1 : ∀ w ∈ u_ws RX1 TX1 11, w ∈ wsX2_place := fun _ h => List.mem_cons_of_mem _ (List.mem_append_right _ h)
def fX2_place (n : Nat → Nat) (K : Nat) (x1 : Int32) (u : XU) : Option (Int32 × XU) := (fX2_isSector n K x1 u).bind fun z1 => (if z1.1 = 0 then (some (zI (-1), z1.2)) else (vg x1 (n 9) (some ((xu_new z1.2) x1.toNatClampNeg, z1.2))))
section
variable {p : Program} {l : Launch} {e : Env} {s : State} {m : MethodId} {args : Array Value} {below : List Frame} {meth : Method} {c : Code} {D : va_G} {a n : Nat → Nat} {cA : Nat → ClassId} {A : Nat → Prop}
set_option maxHeartbeats 4000000 in
set_option maxRecDepth 100000 in
theorem lbX2_place_e {K : Nat} (X : vzX D (XT cA) A wsX2_place cX2_place 2 (some .int) RX2 p s m args meth c) : ∀ (x1 : Int32) (u : XU) (H : Heap) (locs : List Loc) (ls : Array Slot) (r : Int32) (u2 : XU), fX2_place n K x1 u = some (r, u2) → va_P D vwCl (XW a n cA u) H → va_D A (XW a n cA u) → va_S A s.heap H locs → lv_has ls 2 [(0, .ref (a 0)), (1, .int x1)] → W p l e (headSpec wsX2_place rmX2_place).room s m args below meth c H locs 0 0 (MQ below (vzQ D (XT cA) (XW a n cA) A r u2) args s 0 0 A) (F0 m 0 ls []) := by
  obtain ⟨hx, hb, hr, hml, hown, hts, hlk, hN, hK, hA⟩ := id X
  intro x1 u H locs ls r u2 hf hP hD hS hl
  unfold fX2_place at hf
  refine lv_aload_n hx hb dX2_place_0 rfl (lv_at hl 0 rfl) ?_
  refine lv_iload_n hx hb dX2_place_1 rfl (lv_at hl 1 rfl) ?_
  obtain ⟨z1, hz2, hf⟩ := bd hf
  refine vz_call (rest := []) X (kX2_isSector hz2) (cwV 1 hts gX2_place_X2_isSector rfl rfl rfl (by decide +kernel) ⟨Nat.le_of_ble_eq_true rfl, Nat.le_of_ble_eq_true rfl⟩) 0 2 rfl rfl rfl hl.1 rfl (Nat.le_of_ble_eq_true rfl) dX2_place_2 ⟨Nat.zero_le _, Nat.zero_le _⟩ hP hD hS (fun H locs hP hD hS => ?_)
  refine lv_if_eq (tgt := 20) hx hb dX2_place_5 (by decide) (fun c3 => ?_) (fun c3 => ?_)
  · have hf := ift c3 hf
    refine lv_iconst (v := zI (-1)) hx hb dX2_place_20 (by decide) ?_
    cases hf
    exact vz_iret X hP hD hS dX2_place_21
  · have hf := iff_ c3 hf
    refine lv_aload_n hx hb dX2_place_8 rfl (lv_at hl 0 rfl) ?_
    refine va_get (D := D) (ci := 2) (v := .ref (a 1)) (C := RX2) (T := TX2) (N := 4) hx hb hts in_X2_place_X2 hown hK hP 0 rfl rfl 0 (by decide) (hts _ (List.mem_of_getElem? (i := 1) rfl)) (fun _ h9 => h9) rfl dX2_place_9 ?_
    refine va_getN (D := D) (ci := 1) (v := .ref (a 9)) (C := RX1) (T := TX1) (N := 11) hx hb hts in_X2_place_X1 hown hK hP 1 rfl rfl 7 (by decide) (hN.at 5 rfl) (fun _ h9 => h9) rfl dX2_place_12 ?_
    refine lv_iload_n hx hb dX2_place_15 rfl (lv_at hl 1 rfl) ?_
    obtain ⟨g4, hf⟩ := vgs hf
    refine va_iald hx hb hK hP 9 6 rfl rfl g4 dX2_place_16 ?_
    refine lv_goto (tgt := 21) hx hb dX2_place_17 (by decide) ?_
    cases hf
    exact vz_iret X hP hD hS dX2_place_21
end
theorem kX2_place {l : Launch} {D : va_G} {a n : Nat → Nat} {cA : Nat → ClassId} {K : Nat} {x1 : Int32} {u : XU} {r : Int32} {u2 : XU} (h : fX2_place n K x1 u = some (r, u2)) : vzC l D (XT cA) (XW a n cA) yX2_place wsX2_place rmX2_place [.ref (a 0), .int x1] u r u2 := vzC.of (by decide) rfl (Nat.le_of_ble_eq_true rfl) (fun p e s m below meth c A ls X hP hD hl => lbX2_place_e X x1 u s.heap [] ls r u2 h hP hD va_S.rf hl)
