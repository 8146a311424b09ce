abbrev rmX3_open : Room := { frames := 0, cells := 0, slots := 0, locals := 0 }
theorem in_X3_open_X3 : ∀ w ∈ u_ws RX3 TX3 16, w ∈ wsX3_open := fun _ h => List.mem_cons_of_mem _ (List.mem_append_right _ h)
def fX3_open (n : Nat → Nat) (K : Nat) (u : MU) : Option (Int32 × MU) := some (mu_opn u, u)
section
variable {p : Program} {l : Launch} {e : Env} {s : State} {m : MethodId} {args : Array Value} {below : List Frame} {meth : Method} {c : Code} {D : va_G} {a n : Nat → Nat} {cA : Nat → ClassId} {A : Nat → Prop}
set_option maxHeartbeats 4000000 in
set_option maxRecDepth 100000 in
theorem lbX3_open_e {K : Nat} (X : vzX D (MT cA) A wsX3_open cX3_open 1 (some .int) RX3 p s m args meth c) : ∀ (u : MU) (H : Heap) (locs : List Loc) (ls : Array Slot) (r : Int32) (u2 : MU), fX3_open n K u = some (r, u2) → va_P D vwCl (MW a n cA u) H → va_D A (MW a n cA u) → va_S A s.heap H locs → lv_has ls 1 [(0, .ref (a 0))] → W p l e (headSpec wsX3_open rmX3_open).room s m args below meth c H locs 0 0 (MQ below (vzQ D (MT cA) (MW a n cA) A r u2) args s 0 0 A) (F0 m 0 ls []) := by
  obtain ⟨hx, hb, hr, hml, hown, hts, hlk, hN, hK, hA⟩ := id X
  intro u H locs ls r u2 hf hP hD hS hl
  unfold fX3_open at hf
  refine lv_aload_n hx hb dX3_open_0 rfl (lv_at hl 0 rfl) ?_
  refine va_get (D := D) (ci := 3) (v := .int (mu_opn u)) (C := RX3) (T := TX3) (N := 16) hx hb hts in_X3_open_X3 hown hK hP 0 rfl rfl 8 (by decide) (hts _ (List.mem_of_getElem? (i := 1) rfl)) (fun _ h9 => h9) rfl dX3_open_1 ?_
  cases hf
  exact vz_iret X hP hD hS dX3_open_4
end
theorem kX3_open {l : Launch} {D : va_G} {a n : Nat → Nat} {cA : Nat → ClassId} {K : Nat} {u : MU} {r : Int32} {u2 : MU} (h : fX3_open n K u = some (r, u2)) : vzC l D (MT cA) (MW a n cA) yX3_open wsX3_open rmX3_open [.ref (a 0)] u r u2 := vzC.of (by decide) rfl (Nat.le_of_ble_eq_true rfl) (fun p e s m below meth c A ls X hP hD hl => lbX3_open_e X u s.heap [] ls r u2 h hP hD va_S.rf hl)
abbrev rmX3_free : Room := { frames := 2, cells := 0, slots := 0, locals := 45 }
theorem in_X3_free_X3 : ∀ w ∈ u_ws RX3 TX3 16, w ∈ wsX3_free := fun _ h => List.mem_cons_of_mem _ (List.mem_append_right _ h)
def fX3_free (n : Nat → Nat) (K : Nat) (u : MU) : Option (Int32 × MU) := (fX3_freeBlocks n K u).bind fun z1 => (some (z1.1, z1.2))
section
variable {p : Program} {l : Launch} {e : Env} {s : State} {m : MethodId} {args : Array Value} {below : List Frame} {meth : Method} {c : Code} {D : va_G} {a n : Nat → Nat} {cA : Nat → ClassId} {A : Nat → Prop}
set_option maxHeartbeats 4000000 in
set_option maxRecDepth 100000 in
theorem lbX3_free_e {K : Nat} (X : vzX D (MT cA) A wsX3_free cX3_free 1 (some .int) RX3 p s m args meth c) : ∀ (u : MU) (H : Heap) (locs : List Loc) (ls : Array Slot) (r : Int32) (u2 : MU), fX3_free n K u = some (r, u2) → va_P D vwCl (MW a n cA u) H → va_D A (MW a n cA u) → va_S A s.heap H locs → lv_has ls 1 [(0, .ref (a 0))] → W p l e (headSpec wsX3_free rmX3_free).room s m args below meth c H locs 0 0 (MQ below (vzQ D (MT cA) (MW a n cA) A r u2) args s 0 0 A) (F0 m 0 ls []) := by
  obtain ⟨hx, hb, hr, hml, hown, hts, hlk, hN, hK, hA⟩ := id X
  intro u H locs ls r u2 hf hP hD hS hl
  unfold fX3_free at hf
  refine lv_aload_n hx hb dX3_free_0 rfl (lv_at hl 0 rfl) ?_
  obtain ⟨z1, hz2, hf⟩ := bd hf
  refine vz_call (rest := []) X (kX3_freeBlocks hz2) (cwV 0 hts gX3_free_X3_freeBlocks rfl rfl rfl (by decide +kernel) ⟨Nat.le_of_ble_eq_true rfl, Nat.le_of_ble_eq_true rfl⟩) 0 3 rfl rfl rfl hl.1 rfl (Nat.le_of_ble_eq_true rfl) dX3_free_1 ⟨Nat.zero_le _, Nat.zero_le _⟩ hP hD hS (fun H locs hP hD hS => ?_)
  cases hf
  exact vz_iret X hP hD hS dX3_free_4
end
theorem kX3_free {l : Launch} {D : va_G} {a n : Nat → Nat} {cA : Nat → ClassId} {K : Nat} {u : MU} {r : Int32} {u2 : MU} (h : fX3_free n K u = some (r, u2)) : vzC l D (MT cA) (MW a n cA) yX3_free wsX3_free rmX3_free [.ref (a 0)] u r u2 := vzC.of (by decide) rfl (Nat.le_of_ble_eq_true rfl) (fun p e s m below meth c A ls X hP hD hl => lbX3_free_e X u s.heap [] ls r u2 h hP hD va_S.rf hl)
abbrev rmX3_operations : Room := { frames := 0, cells := 0, slots := 0, locals := 0 }
theorem in_X3_operations_X3 : ∀ w ∈ u_ws RX3 TX3 16, w ∈ wsX3_operations := fun _ h => List.mem_cons_of_mem _ (List.mem_append_right _ h)
def fX3_operations (n : Nat → Nat) (K : Nat) (u : MU) : Option (Int32 × MU) := some (mu_ops u, u)
section
variable {p : Program} {l : Launch} {e : Env} {s : State} {m : MethodId} {args : Array Value} {below : List Frame} {meth : Method} {c : Code} {D : va_G} {a n : Nat → Nat} {cA : Nat → ClassId} {A : Nat → Prop}
set_option maxHeartbeats 4000000 in
set_option maxRecDepth 100000 in
theorem lbX3_operations_e {K : Nat} (X : vzX D (MT cA) A wsX3_operations cX3_operations 1 (some .int) RX3 p s m args meth c) : ∀ (u : MU) (H : Heap) (locs : List Loc) (ls : Array Slot) (r : Int32) (u2 : MU), fX3_operations n K u = some (r, u2) → va_P D vwCl (MW a n cA u) H → va_D A (MW a n cA u) → va_S A s.heap H locs → lv_has ls 1 [(0, .ref (a 0))] → W p l e (headSpec wsX3_operations rmX3_operations).room s m args below meth c H locs 0 0 (MQ below (vzQ D (MT cA) (MW a n cA) A r u2) args s 0 0 A) (F0 m 0 ls []) := by
  obtain ⟨hx, hb, hr, hml, hown, hts, hlk, hN, hK, hA⟩ := id X
  intro u H locs ls r u2 hf hP hD hS hl
  unfold fX3_operations at hf
  refine lv_aload_n hx hb dX3_operations_0 rfl (lv_at hl 0 rfl) ?_
  refine va_get (D := D) (ci := 3) (v := .int (mu_ops u)) (C := RX3) (T := TX3) (N := 16) hx hb hts in_X3_operations_X3 hown hK hP 0 rfl rfl 9 (by decide) (hts _ (List.mem_of_getElem? (i := 1) rfl)) (fun _ h9 => h9) rfl dX3_operations_1 ?_
  cases hf
  exact vz_iret X hP hD hS dX3_operations_4
end
theorem kX3_operations {l : Launch} {D : va_G} {a n : Nat → Nat} {cA : Nat → ClassId} {K : Nat} {u : MU} {r : Int32} {u2 : MU} (h : fX3_operations n K u = some (r, u2)) : vzC l D (MT cA) (MW a n cA) yX3_operations wsX3_operations rmX3_operations [.ref (a 0)] u r u2 := vzC.of (by decide) rfl (Nat.le_of_ble_eq_true rfl) (fun p e s m below meth c A ls X hP hD hl => lbX3_operations_e X u s.heap [] ls r u2 h hP hD va_S.rf hl)
