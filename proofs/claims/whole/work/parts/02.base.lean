/-! ===== a world whose cells stay: pure words for walks ===== -/
def zI (z : Int) : Int32 := Int32.ofInt z
def vg {α : Type} (i : Int32) (n : Nat) (x : Option α) : Option α := if i < 0 ∨ n ≤ i.toNatClampNeg then none else x
def vb {α : Type} (r : Int32) (x : Option α) : Option α := if r = 0 ∨ r = 1 then x else none
theorem vgs {α : Type} {i : Int32} {n : Nat} {x : Option α} {z : α} (h : vg i n x = some z) : vp_in i n ∧ x = some z := by
  unfold vg at h
  by_cases hc : i < 0 ∨ n ≤ i.toNatClampNeg
  · rw [if_pos hc] at h; cases h
  · rw [if_neg hc] at h; exact ⟨hc, h⟩
theorem vbs {α : Type} {r : Int32} {x : Option α} {z : α} (h : vb r x = some z) : narrow .boolean (.int r) = .int r ∧ x = some z := by
  unfold vb at h
  by_cases hc : r = 0 ∨ r = 1
  · rw [if_pos hc] at h
    rcases hc with rfl | rfl
    · exact ⟨rfl, h⟩
    · exact ⟨rfl, h⟩
  · rw [if_neg hc] at h; cases h
theorem ift {α : Type} {c : Prop} [Decidable c] {x y : Option α} {z : α} (hc : c) (h : (if c then x else y) = some z) : x = some z := by rwa [if_pos hc] at h
theorem iff_ {α : Type} {c : Prop} [Decidable c] {x y : Option α} {z : α} (hc : ¬ c) (h : (if c then x else y) = some z) : y = some z := by rwa [if_neg hc] at h
theorem bd {α β : Type} {x : Option α} {k : α → Option β} {y : β} (h : x.bind k = some y) : ∃ z, x = some z ∧ k z = some y := by
  cases x with
  | none => cases h
  | some z => exact ⟨z, rfl, h⟩
/-! the words of the nest mates' links: not among a method's words, carried by the start -/
def xNF : List (Nat × String × String × String) := [(75, "WornFlash$Flash", "owners", "[I"), (63, "WornFlash$Flash", "values", "[I"), (67, "WornFlash$Flash", "kinds", "[I"), (78, "WornFlash$Flash", "serials", "[I"), (87, "WornFlash$Flash", "wear", "[I"), (32, "WornFlash$Flash", "newestPlace", "[I"), (151, "WornFlash$Flash", "nextSerial", "I"), (94, "WornFlash$Flash", "operationsDone", "I"), (50, "WornFlash$Flash", "fuseLeft", "I"), (110, "WornFlash$Buffer", "sectors", "[I"), (57, "WornFlash$Buffer", "values", "[I"), (64, "WornFlash$Buffer", "kinds", "[I"), (40, "WornFlash$Buffer", "count", "I")]
def XNW (S : State) : Prop := (∀ q ∈ xNF, va_Nw (.fieldLinkNest RX2 q.1 q.2.1 q.2.2.1 q.2.2.2 "WornFlash") S) ∧ va_Nw (.methodLinkNest RX2 20 yX0_init "WornFlash") S
theorem XNW.at {S : State} {args : Array Value} (h : XNW S) (k : Nat) {i : Nat} {b n d : String} (hk : xNF[k]? = some (i, b, n, d)) : (Cond.fieldLinkNest RX2 i b n d "WornFlash").before args S = true := va_Nw.use rfl (h.1 (i, b, n, d) (List.mem_of_getElem? hk))
theorem XNW.warm {s U : State} (hW : s.WarmedH U.vm) (h : XNW s) : XNW U := ⟨fun q hq => va_Nw.warmF hW (h.1 q hq), va_Nw.warmM hW h.2⟩
theorem XNW.same {u U : State} (e : u.vm = U.vm) (h : XNW u) : XNW U := ⟨fun q hq => va_Nw.same rfl e (h.1 q hq), va_Nw.same rfl e h.2⟩
/-! contracts over a world that keeps its cells -/
def vzPre {U : Type} (D : va_G) (tys : List (ClassId × FieldType)) (Wf : U → va_W) (u : U) (sz : Nat) (S : State) : Prop := S.heap.size = sz ∧ XNW S ∧ va_P D vwCl (Wf u) S.heap ∧ va_K D vwCl tys S ∧ va_D (fun _ => True) (Wf u)
def vzPost {U : Type} (D : va_G) (tys : List (ClassId × FieldType)) (Wf : U → va_W) (A : Nat → Prop) (u : U) (t : State) : Prop := va_P D vwCl (Wf u) t.heap ∧ va_K D vwCl tys t ∧ va_D A (Wf u)
abbrev vzQ {U : Type} (D : va_G) (tys : List (ClassId × FieldType)) (Wf : U → va_W) (A : Nat → Prop) (r : Int32) (u2 : U) : Array Value → State → Outcome → State → Prop := va_Qi (fun r' u' => r' = r ∧ u' = u2) (vzPost D tys Wf A) A
abbrev vzQv {U : Type} (D : va_G) (tys : List (ClassId × FieldType)) (Wf : U → va_W) (A : Nat → Prop) (u2 : U) : Array Value → State → Outcome → State → Prop := va_Qv (fun u' => u' = u2) (vzPost D tys Wf A) A
def vzC {U : Type} (l : Launch) (D : va_G) (tys : List (ClassId × FieldType)) (Wf : U → va_W) (y : MethodName) (ws : List Cond) (rm : Room) (av : List Value) (u : U) (r : Int32) (u2 : U) : Prop :=
  ∀ sz : Nat, Met l y ws rm (va_Pc av (vzPre D tys Wf u sz)) (vzQ D tys Wf (va_A (Wf u) sz) r u2) 0 0 (va_A (Wf u) sz)
def vzV {U : Type} (l : Launch) (D : va_G) (tys : List (ClassId × FieldType)) (Wf : U → va_W) (y : MethodName) (ws : List Cond) (rm : Room) (av : List Value) (u : U) (u2 : U) : Prop :=
  ∀ sz : Nat, Met l y ws rm (va_Pc av (vzPre D tys Wf u sz)) (vzQv D tys Wf (va_A (Wf u) sz) u2) 0 0 (va_A (Wf u) sz)
/-- what a body knows -/
def vzX (D : va_G) (tys : List (ClassId × FieldType)) (A : Nat → Prop) (ws : List Cond) (cc : ByteArray) (maxL : Nat) (ret : Option FieldType) (own : String) (p : Program) (s : State) (m : MethodId) (args : Array Value) (meth : Method) (c : Code) : Prop :=
  p.tables.exec = Jvm.exec ∧ c.code = cc ∧ meth.sig.returnType = ret ∧ c.maxLocals = maxL ∧ s.vm.findClass own = some m.cls ∧ (∀ w ∈ ws, w.before args s = true) ∧ meth.locks = false ∧ XNW s ∧ va_K D vwCl tys s ∧ ∀ q : Nat, s.heap.size ≤ q → A q
theorem vzPre.blind {U : Type} {D : va_G} {tys : List (ClassId × FieldType)} {Wf : U → va_W} {u : U} {sz : Nat} {av : List Value} : FrameBlind (va_Pc av (vzPre D tys Wf u sz)) := fun a S g mk q => by
  obtain ⟨q0, q1, q2, qP, qK, qD⟩ := q
  exact ⟨q0, q1, XNW.same (u := S) (U := S.calling g mk a) rfl q2, qP, va_K.moved (u := S) (U := S.calling g mk a) (Vm.Alike.refl S.vm) qK, qD⟩
theorem vzC.of {U : Type} {l : Launch} {D : va_G} {tys : List (ClassId × FieldType)} {Wf : U → va_W} {y : MethodName} {ws ws' : List Cond} {rm : Room} {av : List Value} {u u2 : U} {r : Int32} {cc : ByteArray} {maxL : Nat} {ret : Option FieldType}
    (hy : plainName y.cls = true) (hw : ws = Cond.code y cc maxL ret :: ws') (hlen : (lg_sl av).length ≤ maxL)
    (body : ∀ (p : Program) (e : Env) (s : State) (m : MethodId) (below : List Frame) (meth : Method) (c : Code) (A : Nat → Prop) (ls : Array Slot), vzX D tys A ws cc maxL ret y.cls p s m av.toArray meth c → va_P D vwCl (Wf u) s.heap → va_D A (Wf u) → lv_has ls maxL (lv_args 0 av) →
      W p l e (headSpec ws rm).room s m av.toArray below meth c s.heap [] 0 0 (MQ below (vzQ D tys Wf A r u2) av.toArray s 0 0 A) (F0 m 0 ls [])) : vzC l D tys Wf y ws rm av u r u2 := by
  intro sz
  refine Met.ofW (cc := cc) (maxL := maxL) (ret := ret) hy hw ?_
  intro p e s m args below meth c s₁ B hml hv
  obtain ⟨rfl, hsz, hN, hP, hK, hD0⟩ := hv
  subst hsz
  have hD := hD0.self (sz := s.heap.size)
  generalize hAe : va_A (Wf u) s.heap.size = A at hD ⊢
  have hl := lv_entry av (n := maxL) hlen
  rw [lg_entry_eq]
  generalize (lg_sl av ++ List.replicate (maxL - (lg_sl av).length) Slot.unset).toArray = ls at hl ⊢
  exact body p e s m below meth c A ls ⟨B.exec, B.bytes, B.returns, hml, findClass_of_methodNamed B.named, atoms_spec (ws := ws) B.pre, B.notSynchronized, hN, hK, fun q h => by rw [← hAe]; exact Or.inr h⟩ hP hD hl
theorem vzV.of {U : Type} {l : Launch} {D : va_G} {tys : List (ClassId × FieldType)} {Wf : U → va_W} {y : MethodName} {ws ws' : List Cond} {rm : Room} {av : List Value} {u u2 : U} {cc : ByteArray} {maxL : Nat} {ret : Option FieldType}
    (hy : plainName y.cls = true) (hw : ws = Cond.code y cc maxL ret :: ws') (hlen : (lg_sl av).length ≤ maxL)
    (body : ∀ (p : Program) (e : Env) (s : State) (m : MethodId) (below : List Frame) (meth : Method) (c : Code) (A : Nat → Prop) (ls : Array Slot), vzX D tys A ws cc maxL ret y.cls p s m av.toArray meth c → va_P D vwCl (Wf u) s.heap → va_D A (Wf u) → lv_has ls maxL (lv_args 0 av) →
      W p l e (headSpec ws rm).room s m av.toArray below meth c s.heap [] 0 0 (MQ below (vzQv D tys Wf A u2) av.toArray s 0 0 A) (F0 m 0 ls [])) : vzV l D tys Wf y ws rm av u u2 := by
  intro sz
  refine Met.ofW (cc := cc) (maxL := maxL) (ret := ret) hy hw ?_
  intro p e s m args below meth c s₁ B hml hv
  obtain ⟨rfl, hsz, hN, hP, hK, hD0⟩ := hv
  subst hsz
  have hD := hD0.self (sz := s.heap.size)
  generalize hAe : va_A (Wf u) s.heap.size = A at hD ⊢
  have hl := lv_entry av (n := maxL) hlen
  rw [lg_entry_eq]
  generalize (lg_sl av ++ List.replicate (maxL - (lg_sl av).length) Slot.unset).toArray = ls at hl ⊢
  exact body p e s m below meth c A ls ⟨B.exec, B.bytes, B.returns, hml, findClass_of_methodNamed B.named, atoms_spec (ws := ws) B.pre, B.notSynchronized, hN, hK, fun q h => by rw [← hAe]; exact Or.inr h⟩ hP hD hl
section VZ
variable {p : Program} {l : Launch} {e : Env} {R : Room} {s : State} {m : MethodId} {args : Array Value} {below : List Frame} {meth : Method} {c : Code} {H : Heap} {locs : List Loc} {cells slots : Nat} {Q : State → Prop}
variable {U : Type} {D : va_G} {tys : List (ClassId × FieldType)} {A : Nat → Prop} {Wf : U → va_W} {Ts : List Cond} {cc : ByteArray} {nL : Nat} {retc : Option FieldType} {own : String} {pc : Nat} {ls : Array Slot}
theorem vz_freeA {u : U} (hD : va_D A (Wf u)) (hS : va_S A s.heap H locs) (hA : ∀ q : Nat, s.heap.size ≤ q → A q) : ∀ q, va_A (Wf u) H.size q → A q := by
  intro q h
  rcases h with ⟨k, e, h⟩ | h
  · exact hD.2 k (q, e) h
  · exact hA q (Nat.le_trans hS.1 h)
theorem vz_call {y : MethodName} {bytes : ByteArray} {maxL k index : Nat} {ret : Option FieldType} {wsy : List Cond} {rm : Room} {C : String} {b : Nat} {As rest st : List Value} {u u2 : U} {r : Int32} {fs : List Value} {T : u_T} {N' : Nat}
    (X : vzX D tys A Ts cc nL retc own p s m args meth c) (hC : vzC l D tys Wf y wsy rm (.ref b :: As) u r u2) (cw : CallW R s args own C index y bytes maxL ret wsy rm 0 0 k)
    (q0 ci : Nat) (he : (Wf u)[q0]? = some (b, .inr (ci, fs))) (hcl : vwCl[ci]? = some (C, T, N')) (hn : As.length = k) (hl : ls.size = nL) (hst : st = As.reverse ++ .ref b :: rest) (hw8 : (rest.map fun v => v.category).sum ≤ 8)
    (hdg : decode cc pc = .ok (.invokevirtual index, 3)) (hf : cells ≤ R.cells ∧ slots ≤ R.slots) (hP : va_P D vwCl (Wf u) H) (hD : va_D A (Wf u)) (hS : va_S A s.heap H locs)
    (kk : ∀ (H1 : Heap) (locs1 : List Loc), va_P D vwCl (Wf u2) H1 → va_D A (Wf u2) → va_S A s.heap H1 locs1 → W p l e R s m args below meth c H1 locs1 cells slots Q (F0 m (pc + 3) ls (.int r :: rest))) : W p l e R s m args below meth c H locs cells slots Q (F0 m pc ls st) := by
  obtain ⟨hx, hb, hr, hml, hown, hts, hlk, hN, hK, hA⟩ := X
  have hFc := vz_freeA hD hS hA
  refine va_calli (va_runV (As := As) (rest := rest) ⟨hx, hb, hml, hown, hts⟩ (hC H.size) cw ⟨vzPre.blind, va_recv hK hP hcl he, fun S hU hW => ⟨rfl, by rw [hU], XNW.warm hW hN, by rw [hU]; exact hP, va_K.moved hW.alike hK, hD.weaken (fun _ _ _ _ => trivial)⟩⟩ rfl hn hl hst (lv_room hw8) hdg hf) hS (fun q _ h => hFc q h) hFc (fun r' u' t H1 locs1 ht hvm hw hB hz1 hk1 hS1 => ?_)
  obtain ⟨rfl, rfl⟩ := hw
  obtain ⟨hP1, hK1, hD1⟩ := hB
  rw [ht] at hP1
  exact kk H1 locs1 hP1 (hD1.weaken (fun _ q _ h => hFc q.1 h)) hS1
theorem vz_callv {y : MethodName} {bytes : ByteArray} {maxL k index : Nat} {ret : Option FieldType} {wsy : List Cond} {rm : Room} {C : String} {b : Nat} {As rest st : List Value} {u u2 : U} {fs : List Value} {T : u_T} {N' : Nat}
    (X : vzX D tys A Ts cc nL retc own p s m args meth c) (hC : vzV l D tys Wf y wsy rm (.ref b :: As) u u2) (cw : CallW R s args own C index y bytes maxL ret wsy rm 0 0 k)
    (q0 ci : Nat) (he : (Wf u)[q0]? = some (b, .inr (ci, fs))) (hcl : vwCl[ci]? = some (C, T, N')) (hn : As.length = k) (hl : ls.size = nL) (hst : st = As.reverse ++ .ref b :: rest) (hw8 : (rest.map fun v => v.category).sum ≤ 8)
    (hdg : decode cc pc = .ok (.invokevirtual index, 3)) (hf : cells ≤ R.cells ∧ slots ≤ R.slots) (hP : va_P D vwCl (Wf u) H) (hD : va_D A (Wf u)) (hS : va_S A s.heap H locs)
    (kk : ∀ (H1 : Heap) (locs1 : List Loc), va_P D vwCl (Wf u2) H1 → va_D A (Wf u2) → va_S A s.heap H1 locs1 → W p l e R s m args below meth c H1 locs1 cells slots Q (F0 m (pc + 3) ls rest)) : W p l e R s m args below meth c H locs cells slots Q (F0 m pc ls st) := by
  obtain ⟨hx, hb, hr, hml, hown, hts, hlk, hN, hK, hA⟩ := X
  have hFc := vz_freeA hD hS hA
  refine va_callv (va_runV (As := As) (rest := rest) ⟨hx, hb, hml, hown, hts⟩ (hC H.size) cw ⟨vzPre.blind, va_recv hK hP hcl he, fun S hU hW => ⟨rfl, by rw [hU], XNW.warm hW hN, by rw [hU]; exact hP, va_K.moved hW.alike hK, hD.weaken (fun _ _ _ _ => trivial)⟩⟩ rfl hn hl hst (lv_room hw8) hdg hf) hS (fun q _ h => hFc q h) hFc (fun u' t H1 locs1 ht hvm hw hB hz1 hk1 hS1 => ?_)
  subst hw
  obtain ⟨hP1, hK1, hD1⟩ := hB
  rw [ht] at hP1
  exact kk H1 locs1 hP1 (hD1.weaken (fun _ q _ h => hFc q.1 h)) hS1
theorem vz_iret {u : U} {r : Int32} (X : vzX D tys A Ts cc nL (some .int) own p s m args meth c) (hP : va_P D vwCl (Wf u) H) (hD : va_D A (Wf u)) (hS : va_S A s.heap H locs) (hdg : decode cc pc = .ok (.ireturn, 1)) : W p l e R s m args below meth c H locs cells slots (MQ below (vzQ D tys Wf A r u) args s cells slots A) (F0 m pc ls [.int r]) := by
  obtain ⟨hx, hb, hr, hml, hown, hts, hlk, hN, hK, hA⟩ := X
  exact W.iret (v := r) hx hb hr (fun t ht hW => ⟨⟨r, u, rfl, ⟨rfl, rfl⟩, by rw [ht]; exact hP, va_K.moved hW.alike hK, hD⟩, hS.F ht⟩) hS.2.2 hdg hlk
theorem vz_zret {u : U} {r : Int32} (X : vzX D tys A Ts cc nL (some .boolean) own p s m args meth c) (hn : narrow .boolean (.int r) = .int r) (hP : va_P D vwCl (Wf u) H) (hD : va_D A (Wf u)) (hS : va_S A s.heap H locs) (hdg : decode cc pc = .ok (.ireturn, 1)) : W p l e R s m args below meth c H locs cells slots (MQ below (vzQ D tys Wf A r u) args s cells slots A) (F0 m pc ls [.int r]) := by
  obtain ⟨hx, hb, hr, hml, hown, hts, hlk, hN, hK, hA⟩ := X
  exact W.zret (v := r) (ty := .boolean) hx hb hr hn (fun t ht hW => ⟨⟨r, u, rfl, ⟨rfl, rfl⟩, by rw [ht]; exact hP, va_K.moved hW.alike hK, hD⟩, hS.F ht⟩) hS.2.2 hdg hlk
theorem vz_vret {u : U} (X : vzX D tys A Ts cc nL none own p s m args meth c) (hP : va_P D vwCl (Wf u) H) (hD : va_D A (Wf u)) (hS : va_S A s.heap H locs) (hdg : decode cc pc = .ok (.return_, 1)) : W p l e R s m args below meth c H locs cells slots (MQ below (vzQv D tys Wf A u) args s cells slots A) (F0 m pc ls []) := by
  obtain ⟨hx, hb, hr, hml, hown, hts, hlk, hN, hK, hA⟩ := X
  exact W.vret hx hb hr (fun t ht hW => ⟨⟨u, rfl, rfl, by rw [ht]; exact hP, va_K.moved hW.alike hK, hD⟩, hS.F ht⟩) hS.2.2 hdg hlk
end VZ
