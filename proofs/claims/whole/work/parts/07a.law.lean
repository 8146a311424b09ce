theorem XW_ad {a n : Nat → Nat} {cA : Nat → ClassId} {u : XU} : ∀ (k : Nat) (p : Nat × va_E), (XW a n cA u)[k]? = some p → k < 13 ∧ p.1 = a k
  | 0, _, h => ⟨by decide, congrArg Prod.fst (Option.some.inj h).symm⟩
  | 1, _, h => ⟨by decide, congrArg Prod.fst (Option.some.inj h).symm⟩
  | 2, _, h => ⟨by decide, congrArg Prod.fst (Option.some.inj h).symm⟩
  | 3, _, h => ⟨by decide, congrArg Prod.fst (Option.some.inj h).symm⟩
  | 4, _, h => ⟨by decide, congrArg Prod.fst (Option.some.inj h).symm⟩
  | 5, _, h => ⟨by decide, congrArg Prod.fst (Option.some.inj h).symm⟩
  | 6, _, h => ⟨by decide, congrArg Prod.fst (Option.some.inj h).symm⟩
  | 7, _, h => ⟨by decide, congrArg Prod.fst (Option.some.inj h).symm⟩
  | 8, _, h => ⟨by decide, congrArg Prod.fst (Option.some.inj h).symm⟩
  | 9, _, h => ⟨by decide, congrArg Prod.fst (Option.some.inj h).symm⟩
  | 10, _, h => ⟨by decide, congrArg Prod.fst (Option.some.inj h).symm⟩
  | 11, _, h => ⟨by decide, congrArg Prod.fst (Option.some.inj h).symm⟩
  | 12, _, h => ⟨by decide, congrArg Prod.fst (Option.some.inj h).symm⟩
  | k + 13, p, h => by simp [XW] at h
theorem MW_ad {a n : Nat → Nat} {cA : Nat → ClassId} {u : MU} : ∀ (k : Nat) (p : Nat × va_E), (MW a n cA u)[k]? = some p → k < 9 ∧ p.1 = a k
  | 0, _, h => ⟨by decide, congrArg Prod.fst (Option.some.inj h).symm⟩
  | 1, _, h => ⟨by decide, congrArg Prod.fst (Option.some.inj h).symm⟩
  | 2, _, h => ⟨by decide, congrArg Prod.fst (Option.some.inj h).symm⟩
  | 3, _, h => ⟨by decide, congrArg Prod.fst (Option.some.inj h).symm⟩
  | 4, _, h => ⟨by decide, congrArg Prod.fst (Option.some.inj h).symm⟩
  | 5, _, h => ⟨by decide, congrArg Prod.fst (Option.some.inj h).symm⟩
  | 6, _, h => ⟨by decide, congrArg Prod.fst (Option.some.inj h).symm⟩
  | 7, _, h => ⟨by decide, congrArg Prod.fst (Option.some.inj h).symm⟩
  | 8, _, h => ⟨by decide, congrArg Prod.fst (Option.some.inj h).symm⟩
  | k + 9, p, h => by simp [MW] at h
def Step1 (Rel : Nat → XU → MU → Prop) (F : XU → Option (Int32 × XU)) (G : MU → Option (Int32 × MU)) : Prop := ∀ (t : Nat) (u : XU) (v : MU), t < 512 → Rel t u v → ∃ (r : Int32) (u2 : XU) (v2 : MU), F u = some (r, u2) ∧ G v = some (r, v2) ∧ Rel (t + 1) u2 v2
def StepV (Rel : Nat → XU → MU → Prop) (F : XU → Option XU) (G : MU → Option MU) : Prop := ∀ (t : Nat) (u : XU) (v : MU), t < 512 → Rel t u v → ∃ (u2 : XU) (v2 : MU), F u = some u2 ∧ G v = some v2 ∧ Rel (t + 1) u2 v2
def LawSteps (K b : Nat) (Rel : Nat → XU → MU → Prop) : Prop := (∀ (t : Nat) (u : XU) (v : MU), Rel t u v → Rel (t + 1) u v) ∧ Step1 Rel (fX2_sectors (xN b) K) (fX3_sectors mN K) ∧ (∀ x1 x2 : Int32, Step1 Rel (fX2_write (xN b) K x1 x2) (fX3_write mN K x1 x2)) ∧ (∀ x1 : Int32, Step1 Rel (fX2_trim (xN b) K x1) (fX3_trim mN K x1)) ∧ Step1 Rel (fX2_flush (xN b) K) (fX3_flush mN K) ∧ StepV Rel (fX2_cut (xN b) K) (fX3_cut mN K) ∧ (∀ x1 : Int32, Step1 Rel (fX2_fuse (xN b) K x1) (fX3_fuse mN K x1)) ∧ (∀ x1 : Int32, Step1 Rel (fX2_read (xN b) K x1) (fX3_read mN K x1)) ∧ (∀ x1 : Int32, Step1 Rel (fX2_holds (xN b) K x1) (fX3_holds mN K x1)) ∧ Step1 Rel (fX2_buffered (xN b) K) (fX3_buffered mN K) ∧ (∀ x1 : Int32, Step1 Rel (fX2_place (xN b) K x1) (fX3_place mN K x1)) ∧ (∀ x1 : Int32, Step1 Rel (fX2_tag (xN b) K x1) (fX3_tag mN K x1)) ∧ (∀ x1 : Int32, Step1 Rel (fX2_serial (xN b) K x1) (fX3_serial mN K x1)) ∧ (∀ x1 : Int32, Step1 Rel (fX2_valid (xN b) K x1) (fX3_valid mN K x1)) ∧ (∀ x1 : Int32, Step1 Rel (fX2_erasures (xN b) K x1) (fX3_erasures mN K x1)) ∧ Step1 Rel (fX2_open (xN b) K) (fX3_open mN K) ∧ Step1 Rel (fX2_free (xN b) K) (fX3_free mN K) ∧ Step1 Rel (fX2_operations (xN b) K) (fX3_operations mN K)
section VZ2
variable {p : Program} {l : Launch} {e : Env} {R : Room} {s : State} {m : MethodId} {args : Array Value} {below : List Frame} {meth : Method} {c : Code} {H : Heap} {locs : List Loc} {cells slots : Nat} {Q : State → Prop}
variable {U : Type} {D : va_G} {tys : List (ClassId × FieldType)} {A : Nat → Prop} {Wf : U → va_W} {Ts : List Cond} {cc : ByteArray} {nL : Nat} {retc : Option FieldType} {own : String} {pc : Nat} {ls : Array Slot}
theorem vz_kept {u : U} {w' : va_W} {H1 : Heap} (hP' : va_P D vwCl w' H) (hap : ∀ (i j : Nat) (p q : Nat × va_E), (Wf u)[i]? = some p → w'[j]? = some q → p.1 ≠ q.1) (hk1 : ∀ q : Nat, q < H.size → ¬ va_A (Wf u) H.size q → H1[q]? = H[q]?) : va_P D vwCl w' H1 := by
  refine hP'.kept (fun k q hq => hk1 q.1 (hP' k q hq).lt (fun h => ?_))
  rcases h with ⟨k2, e2, h⟩ | h
  · exact hap k2 k (q.1, e2) q h hq rfl
  · have := (hP' k q hq).lt
    omega
theorem vz_call2 {y : MethodName} {bytes : ByteArray} {maxL k index : Nat} {ret : Option FieldType} {wsy : List Cond} {rm : Room} {C : String} {b : Nat} {As rest st : List Value} {u u2 : U} {r : Int32} {fs : List Value} {T : u_T} {N' : Nat} {w' : va_W}
    (S : CallFix p m c cc nL s args Ts own) (hN : XNW s) (hK : va_K D vwCl tys s) (hA : ∀ q : Nat, s.heap.size ≤ q → A q) (hC : vzC l D tys Wf y wsy rm (.ref b :: As) u r u2) (cw : CallW R s args own C index y bytes maxL ret wsy rm 0 0 k)
    (q0 ci : Nat) (he : (Wf u)[q0]? = some (b, .inr (ci, fs))) (hcl : vwCl[ci]? = some (C, T, N')) (hn : As.length = k) (hl : ls.size = nL) (hst : st = As.reverse ++ .ref b :: rest) (hw8 : (rest.map fun v => v.category).sum ≤ 8)
    (hdg : decode cc pc = .ok (.invokevirtual index, 3)) (hf : cells ≤ R.cells ∧ slots ≤ R.slots) (hP : va_P D vwCl (Wf u) H) (hD : va_D A (Wf u)) (hS : va_S A s.heap H locs) (hP' : va_P D vwCl w' H) (hap : ∀ (i j : Nat) (p q : Nat × va_E), (Wf u)[i]? = some p → w'[j]? = some q → p.1 ≠ q.1)
    (kk : ∀ (H1 : Heap) (locs1 : List Loc), va_P D vwCl (Wf u2) H1 → va_D A (Wf u2) → va_P D vwCl w' H1 → va_S A s.heap H1 locs1 → W p l e R s m args below meth c H1 locs1 cells slots Q (F0 m (pc + 3) ls (.int r :: rest))) : W p l e R s m args below meth c H locs cells slots Q (F0 m pc ls st) := by
  have hFc := vz_freeA hD hS hA
  refine va_calli (va_runV (As := As) (rest := rest) S (hC H.size) cw ⟨vzPre.blind, va_recv hK hP hcl he, fun S hU hW => ⟨rfl, by rw [hU], XNW.warm hW hN, by rw [hU]; exact hP, va_K.moved hW.alike hK, hD.weaken (fun _ _ _ _ => trivial)⟩⟩ rfl hn hl hst (lv_room hw8) hdg hf) hS (fun q _ h => hFc q h) hFc (fun r' u' t H1 locs1 ht hvm hw hB hz1 hk1 hS1 => ?_)
  obtain ⟨rfl, rfl⟩ := hw
  obtain ⟨hP1, hK1, hD1⟩ := hB
  rw [ht] at hP1
  exact kk H1 locs1 hP1 (hD1.weaken (fun _ q _ h => hFc q.1 h)) (vz_kept hP' hap hk1) hS1
theorem vz_call2v {y : MethodName} {bytes : ByteArray} {maxL k index : Nat} {ret : Option FieldType} {wsy : List Cond} {rm : Room} {C : String} {b : Nat} {As rest st : List Value} {u u2 : U} {fs : List Value} {T : u_T} {N' : Nat} {w' : va_W}
    (S : CallFix p m c cc nL s args Ts own) (hN : XNW s) (hK : va_K D vwCl tys s) (hA : ∀ q : Nat, s.heap.size ≤ q → A q) (hC : vzV l D tys Wf y wsy rm (.ref b :: As) u u2) (cw : CallW R s args own C index y bytes maxL ret wsy rm 0 0 k)
    (q0 ci : Nat) (he : (Wf u)[q0]? = some (b, .inr (ci, fs))) (hcl : vwCl[ci]? = some (C, T, N')) (hn : As.length = k) (hl : ls.size = nL) (hst : st = As.reverse ++ .ref b :: rest) (hw8 : (rest.map fun v => v.category).sum ≤ 8)
    (hdg : decode cc pc = .ok (.invokevirtual index, 3)) (hf : cells ≤ R.cells ∧ slots ≤ R.slots) (hP : va_P D vwCl (Wf u) H) (hD : va_D A (Wf u)) (hS : va_S A s.heap H locs) (hP' : va_P D vwCl w' H) (hap : ∀ (i j : Nat) (p q : Nat × va_E), (Wf u)[i]? = some p → w'[j]? = some q → p.1 ≠ q.1)
    (kk : ∀ (H1 : Heap) (locs1 : List Loc), va_P D vwCl (Wf u2) H1 → va_D A (Wf u2) → va_P D vwCl w' H1 → va_S A s.heap H1 locs1 → W p l e R s m args below meth c H1 locs1 cells slots Q (F0 m (pc + 3) ls rest)) : W p l e R s m args below meth c H locs cells slots Q (F0 m pc ls st) := by
  have hFc := vz_freeA hD hS hA
  refine va_callv (va_runV (As := As) (rest := rest) S (hC H.size) cw ⟨vzPre.blind, va_recv hK hP hcl he, fun S hU hW => ⟨rfl, by rw [hU], XNW.warm hW hN, by rw [hU]; exact hP, va_K.moved hW.alike hK, hD.weaken (fun _ _ _ _ => trivial)⟩⟩ rfl hn hl hst (lv_room hw8) hdg hf) hS (fun q _ h => hFc q h) hFc (fun u' t H1 locs1 ht hvm hw hB hz1 hk1 hS1 => ?_)
  subst hw
  obtain ⟨hP1, hK1, hD1⟩ := hB
  rw [ht] at hP1
  exact kk H1 locs1 hP1 (hD1.weaken (fun _ q _ h => hFc q.1 h)) (vz_kept hP' hap hk1) hS1
end VZ2
theorem lw_ix {L i : Nat} (hL : L ≤ 1538) (hi : i ≤ 1541) (h : ¬ nI L - nI 3 < nI i) : i + 3 ≤ L := by
  rw [Int32.lt_iff_toInt_lt, pk_sub_toInt (by omega) (by omega), nI_toInt (by omega)] at h
  omega
set_option maxHeartbeats 4000000 in
set_option maxRecDepth 100000 in
theorem kL_cell (l : Launch) (b0 L sz : Nat) (xs : Nat → Int32) (j : Nat) (hj : j < 2) (hL : L ≤ 1538) : Met l yL_cell wsL_cell { frames := 0, cells := 0, slots := 0, locals := 0 } (va_Pc [.ref b0, .int (nI j)] (fun U => U.heap.size = sz ∧ va_X b0 L xs U U.heap ∧ b0 < sz)) (va_Qi (fun (r : Int32) (_ : Unit) => r = if L ≤ j then 0 else xs j) (fun _ _ => True) (fun q => sz ≤ q)) 0 0 (fun q => sz ≤ q) := by
  refine Met.ofW (cc := cL_cell) (maxL := 2) (ret := some .int) (by decide) rfl ?_
  intro p e s m args below meth c s₁ B hml hv
  obtain ⟨rfl, hsz, hX, hbl⟩ := hv
  have hx := B.exec
  have hb := B.bytes
  have hr := B.returns
  have hlk := B.notSynchronized
  subst hsz
  have hbA : ¬ (fun q : Nat => s.heap.size ≤ q) b0 := Nat.not_le.mpr hbl
  have hS : va_S (fun q : Nat => s.heap.size ≤ q) s.heap s.heap [] := va_S.rf
  have hl := lv_entry ([.ref b0, .int (nI j)]) (n := 2) (Nat.le_of_ble_eq_true rfl)
  rw [lg_entry_eq]
  generalize (lg_sl ([.ref b0, .int (nI j)]) ++ List.replicate (2 - (lg_sl ([.ref b0, .int (nI j)])).length) Slot.unset).toArray = ls at hl ⊢
  have hl : lv_has ls 2 [(0, .ref b0), (1, .int (nI j))] := hl
  refine lv_iload_n hx hb dL_cell_0 rfl (lv_at hl 1 rfl) ?_
  refine lv_aload_n hx hb dL_cell_1 rfl (lv_at hl 0 rfl) ?_
  refine va_slen hx hb hX hbl hbA hS dL_cell_2 ?_
  refine lv_icmp_ge (tgt := 12) hx hb dL_cell_3 (by decide) (fun c1 => ?_) (fun c1 => ?_)
  · have h1 : L ≤ j := (nI_leI (by omega) (by omega)).mp c1
    refine lv_iconst (v := 0) hx hb dL_cell_12 (by decide) ?_
    exact W.iret (v := 0) hx hb hr (fun t ht hW => ⟨⟨0, (), rfl, by rw [if_pos h1], trivial⟩, hS.F ht⟩) hS.2.2 dL_cell_13 hlk
  · have h1 : ¬ L ≤ j := fun h => c1 ((nI_leI (by omega) (by omega)).mpr h)
    refine lv_aload_n hx hb dL_cell_6 rfl (lv_at hl 0 rfl) ?_
    refine lv_iload_n hx hb dL_cell_7 rfl (lv_at hl 1 rfl) ?_
    refine va_sld hx hb hX hbl hbA hS (vp_in_nI (by omega) (by omega)) dL_cell_8 ?_
    refine lv_goto (tgt := 13) hx hb dL_cell_9 (by decide) ?_
    rw [nI_clamp (by omega)]
    exact W.iret (v := xs j) hx hb hr (fun t ht hW => ⟨⟨xs j, (), rfl, by rw [if_neg h1], trivial⟩, hS.F ht⟩) hS.2.2 dL_cell_13 hlk
