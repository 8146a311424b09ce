set_option maxRecDepth 100000 in
theorem xNF_in : ∀ q ∈ xNF, Cond.fieldLinkNest RX2 q.1 q.2.1 q.2.2.1 q.2.2.2 "WornFlash" ∈ lw_tbl := by
  have h : Cond.fieldLinkNest RX2 75 "WornFlash$Flash" "owners" "[I" "WornFlash" ∈ lw_tbl ∧ Cond.fieldLinkNest RX2 63 "WornFlash$Flash" "values" "[I" "WornFlash" ∈ lw_tbl ∧ Cond.fieldLinkNest RX2 67 "WornFlash$Flash" "kinds" "[I" "WornFlash" ∈ lw_tbl ∧ Cond.fieldLinkNest RX2 78 "WornFlash$Flash" "serials" "[I" "WornFlash" ∈ lw_tbl ∧ Cond.fieldLinkNest RX2 87 "WornFlash$Flash" "wear" "[I" "WornFlash" ∈ lw_tbl ∧ Cond.fieldLinkNest RX2 32 "WornFlash$Flash" "newestPlace" "[I" "WornFlash" ∈ lw_tbl ∧ Cond.fieldLinkNest RX2 151 "WornFlash$Flash" "nextSerial" "I" "WornFlash" ∈ lw_tbl ∧ Cond.fieldLinkNest RX2 94 "WornFlash$Flash" "operationsDone" "I" "WornFlash" ∈ lw_tbl ∧ Cond.fieldLinkNest RX2 50 "WornFlash$Flash" "fuseLeft" "I" "WornFlash" ∈ lw_tbl ∧ Cond.fieldLinkNest RX2 110 "WornFlash$Buffer" "sectors" "[I" "WornFlash" ∈ lw_tbl ∧ Cond.fieldLinkNest RX2 57 "WornFlash$Buffer" "values" "[I" "WornFlash" ∈ lw_tbl ∧ Cond.fieldLinkNest RX2 64 "WornFlash$Buffer" "kinds" "[I" "WornFlash" ∈ lw_tbl ∧ Cond.fieldLinkNest RX2 40 "WornFlash$Buffer" "count" "I" "WornFlash" ∈ lw_tbl := ⟨List.mem_of_getElem? (i := 47) rfl, List.mem_of_getElem? (i := 49) rfl, List.mem_of_getElem? (i := 51) rfl, List.mem_of_getElem? (i := 53) rfl, List.mem_of_getElem? (i := 56) rfl, List.mem_of_getElem? (i := 58) rfl, List.mem_of_getElem? (i := 60) rfl, List.mem_of_getElem? (i := 62) rfl, List.mem_of_getElem? (i := 63) rfl, List.mem_of_getElem? (i := 96) rfl, List.mem_of_getElem? (i := 98) rfl, List.mem_of_getElem? (i := 100) rfl, List.mem_of_getElem? (i := 102) rfl⟩
  obtain ⟨h0, h1, h2, h3, h4, h5, h6, h7, h8, h9, h10, h11, h12⟩ := h
  intro q hq
  simp only [xNF, List.mem_cons, List.not_mem_nil, or_false] at hq
  rcases hq with rfl | rfl | rfl | rfl | rfl | rfl | rfl | rfl | rfl | rfl | rfl | rfl | rfl
  · exact h0
  · exact h1
  · exact h2
  · exact h3
  · exact h4
  · exact h5
  · exact h6
  · exact h7
  · exact h8
  · exact h9
  · exact h10
  · exact h11
  · exact h12
set_option maxHeartbeats 4000000 in
set_option maxRecDepth 100000 in
/-- THE LAW, from its entry, where the pure steps hold -/
theorem law_start {p : Program} {e : Env} {s : State} {m : MethodId} {below : List Frame} {meth : Method} {c : Code} (l : Launch) {b L : Nat} {xs : Nat → Int32} (hL : L ≤ 1538) (C0 : lw_At p s m meth c b L xs) (K : Nat) (hpure : ∀ (nb k : Nat) (f g : Nat → Int32), 5 ≤ nb → nb ≤ 12 → 1 ≤ k → k ≤ 50 → (∀ j, j < 4 * (nb - 3) → f j = zI (-1)) → (∀ j, j < 48 → g j = zI (-1)) → ∃ Rel : Nat → XU → MU → Prop, LawSteps K nb Rel ∧ Rel 0 (XU0 nb (nI k) f) (MU0 nb (nI k) g)) : W p l e room_1 s m #[Value.ref b] below meth c s.heap [] 0 0 (lw_Z below #[Value.ref b] s) (entryFrame m ([Value.ref b] : List Value).toArray 4) := by
  obtain ⟨hx, hb, hr, hml, hown, hts, hX, hbl, hlocks, hgv⟩ := id C0
  have hown : s.vm.findClass RL = some m.cls := hown
  have htsT := hts
  have hts := fun w h => hts w (wsL_law_in w h)
  have hA : ∀ q : Nat, s.heap.size ≤ q → (fun q : Nat => s.heap.size ≤ q) q := fun _ h => h
  have hbA : ¬ (fun q : Nat => s.heap.size ≤ q) b := Nat.not_le.mpr hbl
  have hN : XNW s := ⟨fun q hq => va_Nw.of rfl (htsT _ (xNF_in q hq)), va_Nw.of rfl (htsT _ (List.mem_of_getElem? (i := 91) rfl))⟩
  obtain ⟨c0, iS0, hKn0⟩ := u_known (C := RX0) (T := TX0) (N := 4) (n := 4) hts inlX0 (hts _ (List.mem_of_getElem? (i := 21) rfl))
  obtain ⟨c1, iS1, hKn1⟩ := u_known (C := RX1) (T := TX1) (N := 11) (n := 11) hts inlX1 (hts _ (List.mem_of_getElem? (i := 17) rfl))
  obtain ⟨c2, iS2, hKn2⟩ := u_known (C := RX2) (T := TX2) (N := 4) (n := 4) hts inlX2 (hts _ (List.mem_of_getElem? (i := 1) rfl))
  obtain ⟨c3, iS3, hKn3⟩ := u_known (C := RX3) (T := TX3) (N := 16) (n := 16) hts inlX3 (hts _ (List.mem_of_getElem? (i := 4) rfl))
  obtain ⟨D, hKc⟩ : ∃ (D : va_G), ∀ (k : Nat) (q : vw_C), vwCl[k]? = some q → u_Kn s q.1 q.2.1 q.2.2 (D.1 k) (D.2 k) := by
    refine ⟨(fun k => if k = 0 then c0 else if k = 1 then c1 else if k = 2 then c2 else c3, fun k => if k = 0 then iS0 else if k = 1 then iS1 else if k = 2 then iS2 else iS3), ?_⟩
    intro k q hq
    match k, hq with
    | 0, hq => cases hq; exact hKn0
    | 1, hq => cases hq; exact hKn1
    | 2, hq => cases hq; exact hKn2
    | 3, hq => cases hq; exact hKn3
    | k + 4, hq => simp [vwCl] at hq
  have hS : va_S (fun q : Nat => s.heap.size ≤ q) s.heap s.heap [] := va_S.rf
  have hK : va_K D vwCl [] s := ⟨hKc, fun k q h => by simp at h⟩
  have hP : va_P D vwCl [] s.heap := fun k q h => by simp at h
  have hD : va_D (fun q : Nat => s.heap.size ≤ q) [] := ⟨fun i j p q h => by simp at h, fun k q h => by simp at h⟩
  have hl := lv_entry ([.ref b]) (n := 4) (Nat.le_of_ble_eq_true rfl)
  rw [lg_entry_eq]
  generalize (lg_sl ([.ref b]) ++ List.replicate (4 - (lg_sl ([.ref b])).length) Slot.unset).toArray = ls at hl ⊢
  have hl : lv_has ls 4 [(0, .ref b)] := hl
  generalize hw0 : (if L ≤ 0 then (0 : Int32) else xs 0) = w0
  generalize hw1 : (if L ≤ 1 then (0 : Int32) else xs 1) = w1
  obtain ⟨nb, sp, hc⟩ := cRel_at w0 w1
  refine va_new (ci := 2) (fs := [.null, .null, .int 0, .int 0]) (C := RX2) (T := TX2) (N := 4) hx hb hts inlX2 tyX2 tyX2_ok hown (hts _ (List.mem_of_getElem? (i := 0) rfl)) (hts _ (List.mem_of_getElem? (i := 1) rfl)) (hts _ (List.mem_of_getElem? (i := 2) rfl)) hK hP hD hS hA rfl (fun j hj => by rcases (show j = 0 ∨ j = 1 ∨ j = 2 ∨ j = 3 by omega) with rfl | rfl | rfl | rfl <;> rfl) (Nat.le_of_ble_eq_true rfl) (Nat.le_of_ble_eq_true rfl) dL_law_0 (fun h0 H hP hD hS => ?_)
  have hP : va_P D vwCl [(h0, .inr (2, [.null, .null, .int 0, .int 0]))] H := hP
  have hD : va_D (fun q : Nat => s.heap.size ≤ q) [(h0, .inr (2, [.null, .null, .int 0, .int 0]))] := hD
  refine W.widen (k := 1) (n := 4) (by omega) (by omega) ?_
  refine lv_dup hx hb dL_law_3 rfl ?_
  refine lv_aload_n hx hb dL_law_4 rfl (lv_at hl 0 rfl) ?_
  refine lv_iconst (v := nI 0) hx hb dL_law_5 (by decide) ?_
  refine va_calli (va_runS (As := [.ref b, .int (nI 0)]) (rest := [.ref h0, .ref h0]) ⟨hx, hb, hml, hown, hts⟩ (kL_cell l b L H.size xs 0 (by omega) hL) (va_cwS 2 hts gL_law_L_cell rfl rfl rfl (by decide +kernel) ⟨Nat.le_of_ble_eq_true rfl, Nat.le_of_ble_eq_true rfl⟩) ⟨fun z S g mk q => by obtain ⟨z0, z1, z2, z3⟩ := q; exact ⟨z0, z1, va_X.moved (u := S) (U := S.calling g mk z) (Vm.Alike.refl S.vm) z2, z3⟩, fun S hU hW => ⟨rfl, by rw [hU], by rw [hU]; exact (hX.kept (hS.2.1 b hbl hbA)).moved hW.alike, Nat.lt_of_lt_of_le hbl hS.1⟩⟩ rfl rfl hl.1 rfl (lv_room (Nat.le_of_ble_eq_true rfl)) dL_law_6 ⟨Nat.le_of_ble_eq_true rfl, Nat.le_of_ble_eq_true rfl⟩) hS (fun q h1 h2 => absurd h1 (Nat.not_lt.mpr h2)) (fun q h => Nat.le_trans hS.1 h) (fun r u t H1 locs ht hvm hw hB hz1 hk1 hS => ?_)
  have hP := hP.kept (H1 := H1) (fun k q hq => hk1 q.1 (hP k q hq).lt (Nat.not_le.mpr (hP k q hq).lt))
  rw [hw0] at hw
  have hw := hw.symm
  subst hw
  generalize H1 = H at hP hS ⊢
  refine W.widen (k := 1) (n := 4) (by omega) (by omega) ?_
  refine lv_aload_n hx hb dL_law_9 rfl (lv_at hl 0 rfl) ?_
  refine lv_iconst (v := nI 1) hx hb dL_law_10 (by decide) ?_
  refine va_calli (va_runS (As := [.ref b, .int (nI 1)]) (rest := [.int w0, .ref h0, .ref h0]) ⟨hx, hb, hml, hown, hts⟩ (kL_cell l b L H.size xs 1 (by omega) hL) (va_cwS 2 hts gL_law_L_cell rfl rfl rfl (by decide +kernel) ⟨Nat.le_of_ble_eq_true rfl, Nat.le_of_ble_eq_true rfl⟩) ⟨fun z S g mk q => by obtain ⟨z0, z1, z2, z3⟩ := q; exact ⟨z0, z1, va_X.moved (u := S) (U := S.calling g mk z) (Vm.Alike.refl S.vm) z2, z3⟩, fun S hU hW => ⟨rfl, by rw [hU], by rw [hU]; exact (hX.kept (hS.2.1 b hbl hbA)).moved hW.alike, Nat.lt_of_lt_of_le hbl hS.1⟩⟩ rfl rfl hl.1 rfl (lv_room (Nat.le_of_ble_eq_true rfl)) dL_law_11 ⟨Nat.le_of_ble_eq_true rfl, Nat.le_of_ble_eq_true rfl⟩) hS (fun q h1 h2 => absurd h1 (Nat.not_lt.mpr h2)) (fun q h => Nat.le_trans hS.1 h) (fun r u t H1 locs ht hvm hw hB hz1 hk1 hS => ?_)
  have hP := hP.kept (H1 := H1) (fun k q hq => hk1 q.1 (hP k q hq).lt (Nat.not_le.mpr (hP k q hq).lt))
  rw [hw1] at hw
  have hw := hw.symm
  subst hw
  generalize H1 = H at hP hS ⊢
  refine W.widen (k := 1) (n := 4) (by omega) (by omega) ?_
  have hPc := hP.sub (ws' := [(h0, .inr (2, [.null, .null, .int 0, .int 0]))]) [0] rfl
  have hDc := hD.sub (ws' := [(h0, .inr (2, [.null, .null, .int 0, .int 0]))]) [0] (by decide) rfl
  have hKc := hK.sub (tys' := []) [] rfl
  have hFc := va_free (wc := [(h0, .inr (2, [.null, .null, .int 0, .int 0]))]) hD hS hA [0] rfl
  refine va_callv (va_runI (As := [.int w0, .int w1]) (rest := [.ref h0]) ⟨hx, hb, hml, hown, hts⟩ (kX2_init l D h0 H.size w0 w1 nb sp hc) (cwI 2 hts gL_law_X2_init rfl rfl rfl (hts _ (List.mem_of_getElem? (i := 2) rfl)) (hts _ (List.mem_of_getElem? (i := 10) rfl)) (hts _ (List.mem_of_getElem? (i := 11) rfl)) rfl (by decide +kernel) ⟨Nat.le_of_ble_eq_true rfl, Nat.le_of_ble_eq_true rfl⟩) ⟨fun z S g mk q => by obtain ⟨z0, z1, z2, qP, qK, qD⟩ := q; exact ⟨z0, z1, XNW.same (u := S) (U := S.calling g mk z) rfl z2, qP, va_K.moved (u := S) (U := S.calling g mk z) (Vm.Alike.refl S.vm) qK, qD⟩, fun S hU hW => ⟨rfl, by rw [hU], XNW.warm hW hN, by rw [hU]; exact hPc, va_K.moved hW.alike hKc, hDc.weaken (fun _ _ _ _ => trivial)⟩⟩ rfl rfl hl.1 rfl (lv_room (Nat.le_of_ble_eq_true rfl)) dL_law_14 ⟨Nat.le_of_ble_eq_true rfl, Nat.le_of_ble_eq_true rfl⟩) hS (fun q _ h => hFc q h) hFc (fun u t H1 locs ht hvm hw hB hz1 hk1 hS => ?_)
  obtain ⟨a, cA, f, ha, hf, hP1, hK1, hD1⟩ := hB
  rw [ht] at hP1
  have hKX := va_K.moved hvm.symm hK1
  obtain ⟨hP, hD⟩ := va_join (wr := []) (w1 := XW a (xN nb) cA (XU0 nb sp f)) hP hD [0] [] rfl rfl (by decide) (by decide) hk1 hFc hP1 hD1
  generalize H1 = H at hP hS ⊢
  have hP : va_P D vwCl (XW a (xN nb) cA (XU0 nb sp f)) H := hP
  have hD : va_D (fun q : Nat => s.heap.size ≤ q) (XW a (xN nb) cA (XU0 nb sp f)) := hD
  refine W.widen (k := 13) (n := 280) (by omega) (by omega) ?_
  refine lv_astore_n (lv' := [(1, .ref h0), (0, .ref b)]) hx hb dL_law_17 rfl hl (by decide) rfl (fun ls hl => ?_)
  refine va_new (ci := 3) (fs := [.int 0, .int 0, .null, .null, .null, .null, .null, .int 0, .int 0, .int 0, .int 0, .int 0, .int 0, .null, .null, .null]) (C := RX3) (T := TX3) (N := 16) hx hb hts inlX3 tyX3 tyX3_ok hown (hts _ (List.mem_of_getElem? (i := 3) rfl)) (hts _ (List.mem_of_getElem? (i := 4) rfl)) (hts _ (List.mem_of_getElem? (i := 5) rfl)) hK hP hD hS hA rfl (fun j hj => by rcases (show j = 0 ∨ j = 1 ∨ j = 2 ∨ j = 3 ∨ j = 4 ∨ j = 5 ∨ j = 6 ∨ j = 7 ∨ j = 8 ∨ j = 9 ∨ j = 10 ∨ j = 11 ∨ j = 12 ∨ j = 13 ∨ j = 14 ∨ j = 15 by omega) with rfl | rfl | rfl | rfl | rfl | rfl | rfl | rfl | rfl | rfl | rfl | rfl | rfl | rfl | rfl | rfl <;> rfl) (Nat.le_of_ble_eq_true rfl) (Nat.le_of_ble_eq_true rfl) dL_law_18 (fun g0 H hP hD hS => ?_)
  refine W.widen (k := 14) (n := 296) (by omega) (by omega) ?_
  refine lv_dup hx hb dL_law_21 rfl ?_
  refine lv_aload_n hx hb dL_law_22 rfl (lv_at hl 1 rfl) ?_
  refine lv_iconst (v := nI 0) hx hb dL_law_23 (by decide) ?_
  refine va_calli (va_runS (As := [.ref b, .int (nI 0)]) (rest := [.ref g0, .ref g0]) ⟨hx, hb, hml, hown, hts⟩ (kL_cell l b L H.size xs 0 (by omega) hL) (va_cwS 2 hts gL_law_L_cell rfl rfl rfl (by decide +kernel) ⟨Nat.le_of_ble_eq_true rfl, Nat.le_of_ble_eq_true rfl⟩) ⟨fun z S g mk q => by obtain ⟨z0, z1, z2, z3⟩ := q; exact ⟨z0, z1, va_X.moved (u := S) (U := S.calling g mk z) (Vm.Alike.refl S.vm) z2, z3⟩, fun S hU hW => ⟨rfl, by rw [hU], by rw [hU]; exact (hX.kept (hS.2.1 b hbl hbA)).moved hW.alike, Nat.lt_of_lt_of_le hbl hS.1⟩⟩ rfl rfl hl.1 rfl (lv_room (Nat.le_of_ble_eq_true rfl)) dL_law_24 ⟨Nat.le_of_ble_eq_true rfl, Nat.le_of_ble_eq_true rfl⟩) hS (fun q h1 h2 => absurd h1 (Nat.not_lt.mpr h2)) (fun q h => Nat.le_trans hS.1 h) (fun r u t H1 locs ht hvm hw hB hz1 hk1 hS => ?_)
  have hP := hP.kept (H1 := H1) (fun k q hq => hk1 q.1 (hP k q hq).lt (Nat.not_le.mpr (hP k q hq).lt))
  rw [hw0] at hw
  have hw := hw.symm
  subst hw
  generalize H1 = H at hP hS ⊢
  refine W.widen (k := 14) (n := 296) (by omega) (by omega) ?_
  refine lv_aload_n hx hb dL_law_27 rfl (lv_at hl 1 rfl) ?_
  refine lv_iconst (v := nI 1) hx hb dL_law_28 (by decide) ?_
  refine va_calli (va_runS (As := [.ref b, .int (nI 1)]) (rest := [.int w0, .ref g0, .ref g0]) ⟨hx, hb, hml, hown, hts⟩ (kL_cell l b L H.size xs 1 (by omega) hL) (va_cwS 2 hts gL_law_L_cell rfl rfl rfl (by decide +kernel) ⟨Nat.le_of_ble_eq_true rfl, Nat.le_of_ble_eq_true rfl⟩) ⟨fun z S g mk q => by obtain ⟨z0, z1, z2, z3⟩ := q; exact ⟨z0, z1, va_X.moved (u := S) (U := S.calling g mk z) (Vm.Alike.refl S.vm) z2, z3⟩, fun S hU hW => ⟨rfl, by rw [hU], by rw [hU]; exact (hX.kept (hS.2.1 b hbl hbA)).moved hW.alike, Nat.lt_of_lt_of_le hbl hS.1⟩⟩ rfl rfl hl.1 rfl (lv_room (Nat.le_of_ble_eq_true rfl)) dL_law_29 ⟨Nat.le_of_ble_eq_true rfl, Nat.le_of_ble_eq_true rfl⟩) hS (fun q h1 h2 => absurd h1 (Nat.not_lt.mpr h2)) (fun q h => Nat.le_trans hS.1 h) (fun r u t H1 locs ht hvm hw hB hz1 hk1 hS => ?_)
  have hP := hP.kept (H1 := H1) (fun k q hq => hk1 q.1 (hP k q hq).lt (Nat.not_le.mpr (hP k q hq).lt))
  rw [hw1] at hw
  have hw := hw.symm
  subst hw
  generalize H1 = H at hP hS ⊢
  refine W.widen (k := 14) (n := 296) (by omega) (by omega) ?_
  have hPc := hP.sub (ws' := [(g0, .inr (3, [.int 0, .int 0, .null, .null, .null, .null, .null, .int 0, .int 0, .int 0, .int 0, .int 0, .int 0, .null, .null, .null]))]) [13] rfl
  have hDc := hD.sub (ws' := [(g0, .inr (3, [.int 0, .int 0, .null, .null, .null, .null, .null, .int 0, .int 0, .int 0, .int 0, .int 0, .int 0, .null, .null, .null]))]) [13] (by decide) rfl
  have hKc := hK.sub (tys' := []) [] rfl
  have hFc := va_free (wc := [(g0, .inr (3, [.int 0, .int 0, .null, .null, .null, .null, .null, .int 0, .int 0, .int 0, .int 0, .int 0, .int 0, .null, .null, .null]))]) hD hS hA [13] rfl
  refine va_callv (va_runI (As := [.int w0, .int w1]) (rest := [.ref g0]) ⟨hx, hb, hml, hown, hts⟩ (kX3_init l D g0 H.size w0 w1 nb sp hc) (cwI 2 hts gL_law_X3_init rfl rfl rfl (hts _ (List.mem_of_getElem? (i := 5) rfl)) (hts _ (List.mem_of_getElem? (i := 45) rfl)) (hts _ (List.mem_of_getElem? (i := 46) rfl)) rfl (by decide +kernel) ⟨Nat.le_of_ble_eq_true rfl, Nat.le_of_ble_eq_true rfl⟩) ⟨fun z S g mk q => by obtain ⟨z0, z1, z2, qP, qK, qD⟩ := q; exact ⟨z0, z1, XNW.same (u := S) (U := S.calling g mk z) rfl z2, qP, va_K.moved (u := S) (U := S.calling g mk z) (Vm.Alike.refl S.vm) qK, qD⟩, fun S hU hW => ⟨rfl, by rw [hU], XNW.warm hW hN, by rw [hU]; exact hPc, va_K.moved hW.alike hKc, hDc.weaken (fun _ _ _ _ => trivial)⟩⟩ rfl rfl hl.1 rfl (lv_room (Nat.le_of_ble_eq_true rfl)) dL_law_32 ⟨Nat.le_of_ble_eq_true rfl, Nat.le_of_ble_eq_true rfl⟩) hS (fun q _ h => hFc q h) hFc (fun u t H1 locs ht hvm hw hB hz1 hk1 hS => ?_)
  obtain ⟨a', cA', g, ha', hg, hP1, hK1, hD1⟩ := hB
  rw [ht] at hP1
  have hKM := va_K.moved hvm.symm hK1
  obtain ⟨hP, hD⟩ := va_join (wr := XW a (xN nb) cA (XU0 nb sp f)) (w1 := MW a' mN cA' (MU0 nb sp g)) hP hD [13] [0, 1, 2, 3, 4, 5, 6, 7, 8, 9, 10, 11, 12] rfl rfl (by decide) (by decide) hk1 hFc hP1 hD1
  generalize H1 = H at hP hS ⊢
  have hPx := hP.sub (ws' := XW a (xN nb) cA (XU0 nb sp f)) [0, 1, 2, 3, 4, 5, 6, 7, 8, 9, 10, 11, 12] rfl
  have hDx := hD.sub (ws' := XW a (xN nb) cA (XU0 nb sp f)) [0, 1, 2, 3, 4, 5, 6, 7, 8, 9, 10, 11, 12] (by decide) rfl
  have hPm := hP.sub (ws' := MW a' mN cA' (MU0 nb sp g)) [13, 14, 15, 16, 17, 18, 19, 20, 21] rfl
  have hDm := hD.sub (ws' := MW a' mN cA' (MU0 nb sp g)) [13, 14, 15, 16, 17, 18, 19, 20, 21] (by decide) rfl
  have hapA : ∀ i, i < 13 → ∀ j, j < 9 → a i ≠ a' j := by
    intro i hi j hj he
    obtain ⟨x, hx1⟩ : ∃ x, (XW a (xN nb) cA (XU0 nb sp f))[i]? = some x := ⟨_, List.getElem?_eq_getElem (by show i < 13; exact hi)⟩
    obtain ⟨y, hy1⟩ : ∃ y, (MW a' mN cA' (MU0 nb sp g))[j]? = some y := ⟨_, List.getElem?_eq_getElem (by show j < 9; exact hj)⟩
    have h1 := (XW_ad i x hx1).2
    have h2 := (MW_ad j y hy1).2
    have h3 := hD.1 i (13 + j) x y (by rw [List.getElem?_append_left (by show i < 13; exact hi)]; exact hx1) (by rw [List.getElem?_append_right (by show 13 ≤ 13 + j; omega), show 13 + j - (XW a (xN nb) cA (XU0 nb sp f)).length = j from by show 13 + j - 13 = j; omega]; exact hy1) (by rw [h1, h2]; exact he)
    omega
  refine W.widen (k := 22) (n := 509) (by omega) (by omega) ?_
  refine lv_astore_n (lv' := [(2, .ref g0), (1, .ref h0), (0, .ref b)]) hx hb dL_law_35 rfl hl (by decide) rfl (fun ls hl => ?_)
  refine lv_iconst (v := nI (2 + 3 * 0)) hx hb dL_law_36 (by decide) ?_
  refine lv_istore_n (lv' := [(3, .int (nI (2 + 3 * 0))), (2, .ref g0), (1, .ref h0), (0, .ref b)]) hx hb dL_law_37 rfl hl (by decide) rfl (fun ls hl => ?_)
  obtain ⟨k, hk1, hk50, rfl⟩ := hc.2.2.2.2.2.2.2.2
  obtain ⟨Rel, hsteps, hR0⟩ := hpure nb k f g hc.1 hc.2.1 hk1 hk50 hf hg
  subst ha
  subst ha'
  exact law_loop hL C0 hN hKX hKM hapA hsteps 513 0 _ _ H locs ls (by omega) (by omega) hR0 hPx hDx hPm hDm hS (lv_sub hl [3, 2, 1, 0] rfl)
