section
variable {nb sp c K : Nat} {sec : Nat → Option Nat} {val : Nat → Int32} {ser : Nat → Nat} {kin : Nat → Int32} {era prg : Nat → Nat} {new : Nat → Option Nat} {nxt : Nat} {opn : Option Nat} {ops : Int32} {fus ent : Nat} {ese : Nat → Nat} {eva eso : Nat → Int32} {u : XU} {v : MU}
theorem set_old {k s : Nat} {x y : Int32} (hX : RXP nb sp sec val ser kin era prg new nxt opn ops fus ent ese eva eso u) (hM : RMP nb sp sec val ser kin era prg new nxt opn ops fus ent ese eva eso v) (hB : BufP nb ent ese eso) (hk : k < ent) (hks : ese k = s) (hy : y ≠ 0) : RXP nb sp sec val ser kin era prg new nxt opn ops fus ent ese (upN eva k x) (upN eso k y) (xu_s_bki (xu_s_bva u (upd (xu_bva u) k x)) (upd (xu_bki u) k y)) ∧ RMP nb sp sec val ser kin era prg new nxt opn ops fus ent ese (upN eva k x) (upN eso k y) (mu_s_eso (mu_s_eva (mu_s_ese v (upd (mu_ese v) k (nI s))) (upd (mu_eva v) k x)) (upd (mu_eso v) k y)) ∧ BufP nb ent ese (upN eso k y) := by
  obtain ⟨g1, gp, gb, gn, ge⟩ := hX
  obtain ⟨k1, kp, kb, ke⟩ := hM
  refine ⟨⟨g1, gp, gb, gn, fun j hj => ?_⟩, ⟨k1, kp, kb, fun j hj => ?_⟩, hB.1, fun j hj => ?_⟩
  · show xu_bse u j = nI (ese j) ∧ upd (xu_bva u) k x j = upN eva k x j ∧ upd (xu_bki u) k y j = upN eso k y j
    have h := ge j hj
    by_cases e : j = k
    · subst e
      rw [upN_s, upN_s, pk_us, pk_us]
      exact ⟨h.1, rfl, rfl⟩
    · rw [upN_n e, upN_n e, pk_un e, pk_un e]
      exact h
  · show upd (mu_ese v) k (nI s) j = nI (ese j) ∧ upd (mu_eva v) k x j = upN eva k x j ∧ upd (mu_eso v) k y j = upN eso k y j
    by_cases e : j = k
    · subst e
      rw [upN_s, upN_s, pk_us, pk_us, pk_us, hks]
      exact ⟨rfl, rfl, rfl⟩
    · rw [upN_n e, upN_n e, pk_un e, pk_un e, pk_un e]
      exact ke j hj
  · by_cases e : j = k
    · subst e
      rw [upN_s]
      exact ⟨(hB.2 j hj).1, hy⟩
    · rw [upN_n e]
      exact hB.2 j hj
end
theorem CutP.rel {nb sp c fus : Nat} {F : Option XU} {G : Option MU} (h : CutP nb sp c fus F G) (hf : fus ≤ 1000) : ∃ u' v', F = some u' ∧ G = some v' ∧ RelC nb sp c u' v' := by
  obtain ⟨u', v', s1, s2, s3, s4, s5, s6, s7, s8, s9, s10, s11, a1, a2, a3, a4, a5, a6, a7, a8⟩ := h
  obtain ⟨b1, b2⟩ := a3 (fun _ => 0) (fun _ => 0) (fun _ => 0)
  exact ⟨u', v', a1, a2, s1, s2, s3, s4, s5, s6, s7, s8, s9, s10, s11, 0, fun _ => 0, fun _ => 0, fun _ => 0, b1, b2, a4, by omega, a6, a7, a8, by omega, fun k hk => by omega⟩
theorem put_step {nb sp K : Nat} (hK : 60 < K) (x val2 y : Int32) (hy : y ≠ 0) : Step1 (Rel nb sp) (fX2_put (xN nb) K x val2 y) (fX3_change mN K x val2 y) := by
  intro t u v ht hR
  obtain ⟨sec, val, ser, kin, era, prg, new, nxt, opn, ops, fus, ent, ese, eva, eso, hX, hM, hW, hf2, hpt, hop, hfr, hB⟩ := id hR
  have h12 := hW.1.2.1
  have h3 := hB.1
  have hct : cT t = 100 * t := by unfold cT; omega
  unfold fX2_put fX3_change
  rcases isS_both (K := K) hX hM hW x with ⟨s, hs, rfl, e1, e2⟩ | ⟨hno, e1, e2⟩
  · rw [e1, e2, bsome, bsome]
    show ∃ r u2 v2, (if zI 1 = 0 then _ else _) = _ ∧ (if zI 1 = 0 then _ else _) = _ ∧ _
    rw [if_neg (show ¬ zI 1 = 0 from by decide), if_neg (show ¬ zI 1 = 0 from by decide)]
    obtain ⟨o, f1, f2, fn, fs⟩ := find_both hK hX hM h3 (nI s)
    rw [f1, f2, bsome, bsome]
    cases o with
    | some k =>
      obtain ⟨hk, hke⟩ := fs k rfl
      have hks : ese k = s := nI_inj (by have := (hB.2 k hk).1; omega) (by omega) hke
      obtain ⟨c1, c2, c3⟩ := set_old (k := k) (s := s) (x := val2) (y := y) hX hM hB hk hks hy
      refine ⟨zI 0, _, _, ?_, ?_, (show RelC nb sp (cT t + 0) _ _ from ⟨sec, val, ser, kin, era, prg, new, nxt, opn, ops, fus, ent, ese, _, _, c1, c2, hW, hf2, hpt, hop, hfr, c3⟩).next ht (by omega)⟩
      · show (if nI k = zI (-1) then _ else (fX0_change (xN nb) K (nI k) val2 y u).bind _) = _
        rw [if_neg (nI_nem (by omega))]
        unfold fX0_change
        rw [xN11, vg_in (by omega) (by omega), xN12, vg_in (by omega) (by omega), nI_clamp (by omega), bsome]
      · show (if nI k = zI (-1) then _ else vg (nI k) (mN 6) (vg (nI k) (mN 7) (vg (nI k) (mN 8) _))) = _
        rw [if_neg (nI_nem (by omega)), mN6, vg_in (by omega) (by omega), mN7, vg_in (by omega) (by omega), mN8, vg_in (by omega) (by omega)]
        show some (zI 0, mu_s_eso (mu_s_eva (mu_s_ese v (upd (mu_ese v) (nI k).toNatClampNeg (nI s))) (upd (mu_eva v) (nI k).toNatClampNeg val2)) (upd (mu_eso v) (nI k).toNatClampNeg y)) = _
        rw [nI_clamp (by omega)]
    | none =>
      show ∃ r u2 v2, (if cO none = zI (-1) then (fX0_isFull (xN nb) K u).bind _ else _) = _ ∧ (if cO none = zI (-1) then (if mu_ent v = zI 3 then _ else _) else _) = _ ∧ _
      rw [if_pos cO_n, if_pos cO_n]
      unfold fX0_isFull
      rw [hX.1.2.2.2.2.2.2, hM.1.2.2.2.2.2.2]
      by_cases he : ent = 3
      · rw [if_pos (show nI ent = zI 3 from by rw [he, zn3]), if_pos (show nI ent = zI 3 from by rw [he, zn3]), bsome]
        show ∃ r u2 v2, (if zI 1 = 0 then _ else (fX2_storeFirst (xN nb) K u).bind _) = _ ∧ _ ∧ _
        rw [if_neg (show ¬ zI 1 = 0 from by decide)]
        obtain ⟨res, u1, v1, s1, s2, s3, s4, s5, s6, s7, s8, s9, s10, s11, a1, a2, a3, a4, a5, a6, a7⟩ := store_both hK hX hM hW (by omega) hf2 hpt hop hfr hB (by omega)
        rw [a1, a2, bsome, bsome]
        cases res with
        | false =>
          obtain ⟨b1, b2, b3, b4⟩ := a7 rfl
          obtain ⟨u2, v2, d1, d2, d3⟩ := (cut_both hK b1 b2 a3 (by omega) (by omega) a5 b4 (Or.inl b3)).rel (by omega)
          refine ⟨zI 1, u2, v2, ?_, ?_, RelC.next (d := 16) d3 ht (by omega)⟩
          · show (fX2_losePower (xN nb) K u1).bind _ = _
            rw [d1, bsome]
          · show (fX3_cut mN K v1).bind _ = _
            rw [d2, bsome]
        | true =>
          obtain ⟨b1, b2, b3, b4⟩ := a6 rfl
          obtain ⟨u2, d1, d2, d3, d4⟩ := add_both (K := K) (s := s) (x := val2) (y := y) b1 b2 ⟨by omega, fun k hk => hB.2 (k + 1) (by omega)⟩ (by omega) hs hy
          refine ⟨zI 0, u2, _, ?_, ?_, (show RelC nb sp (cT t + 11) _ _ from ⟨s1, s2, s3, s4, s5, s6, s7, s8, s9, s10, s11, _, _, _, _, d2, d3, a3, by omega, a5, b3, b4, d4⟩).next ht (by omega)⟩
          · show (fX0_add (xN nb) K (nI s) val2 y u1).bind _ = _
            rw [d1, bsome]
          · show vg (mu_ent v1) (mN 6) (vg (mu_ent v1) (mN 7) (vg (mu_ent v1) (mN 8) _)) = _
            rw [b2.1.2.2.2.2.2.2, mN6, vg_in (by omega) (by omega), mN7, vg_in (by omega) (by omega), mN8, vg_in (by omega) (by omega), nI_clamp (by omega), zn1, nI_add]
      · have hne : ¬ nI ent = zI 3 := fun e => he (nI_inj (by omega) (by omega) (e.trans zn3))
        rw [if_neg hne, if_neg hne, bsome]
        obtain ⟨u2, d1, d2, d3, d4⟩ := add_both (K := K) (s := s) (x := val2) (y := y) hX hM hB (by omega) hs hy
        refine ⟨zI 0, u2, _, ?_, ?_, (show RelC nb sp (cT t + 0) _ _ from ⟨sec, val, ser, kin, era, prg, new, nxt, opn, ops, fus, _, _, _, _, d2, d3, hW, hf2, hpt, hop, hfr, d4⟩).next ht (by omega)⟩
        · show (if zI 0 = 0 then (fX0_add (xN nb) K (nI s) val2 y u).bind _ else _) = _
          rw [if_pos (by decide), d1, bsome]
        · show vg (nI ent) (mN 6) (vg (nI ent) (mN 7) (vg (nI ent) (mN 8) _)) = _
          rw [mN6, vg_in (by omega) (by omega), mN7, vg_in (by omega) (by omega), mN8, vg_in (by omega) (by omega), nI_clamp (by omega), zn1, nI_add]
  · rw [e1, e2, bsome, bsome]
    exact ⟨zI (-1), u, v, rfl, rfl, hR.mono⟩
theorem Step1.wrap {R : Nat → XU → MU → Prop} {F : XU → Option (Int32 × XU)} {G : MU → Option (Int32 × MU)} (h : Step1 R F G) : Step1 R (fun u => (F u).bind fun z1 => (some (z1.1, z1.2))) (fun v => (G v).bind fun z1 => (some (z1.1, z1.2))) := fun t u v ht hR => by
  obtain ⟨r, u2, v2, h1, h2, h3⟩ := h t u v ht hR
  exact ⟨r, u2, v2, (by show (F u).bind _ = _; rw [h1]; rfl), (by show (G v).bind _ = _; rw [h2]; rfl), h3⟩
theorem flush_loop {nb sp K : Nat} (hK : 60 < K) : ∀ (e N M c : Nat) (sec : Nat → Option Nat) (val : Nat → Int32) (ser : Nat → Nat) (kin : Nat → Int32) (era prg : Nat → Nat) (new : Nat → Option Nat) (nxt : Nat) (opn : Option Nat) (ops : Int32) (fus ent : Nat) (ese : Nat → Nat) (eva eso : Nat → Int32) (u : XU) (v : MU), ent = e → e < N → e < M → RXP nb sp sec val ser kin era prg new nxt opn ops fus ent ese eva eso u → RMP nb sp sec val ser kin era prg new nxt opn ops fus ent ese eva eso v → WfP nb c sec ser kin era prg new nxt opn → c + 16 * e ≤ 90000 → fus ≤ 1000 → ptl nb prg opn → (∀ b, opn = some b → 0 < prg b) → (∃ z, z < nb ∧ prg z = 0) → BufP nb ent ese eso → ∃ r u' v', fX2_flush_8 (xN nb) K N (nI e) u = some (r, u') ∧ fX3_flush_0 mN K M v = some (r, v') ∧ RelC nb sp (c + 16 * e) u' v' := by
  intro e
  induction e with
  | zero =>
    intro N M c sec val ser kin era prg new nxt opn ops fus ent ese eva eso u v he hN hM' hX hM hW hc9 hf2 hpt hop hfr hB
    obtain ⟨N', rfl⟩ : ∃ N', N = N' + 1 := ⟨N - 1, by omega⟩
    obtain ⟨M', rfl⟩ : ∃ M', M = M' + 1 := ⟨M - 1, by omega⟩
    refine ⟨zI 0, u, v, ?_, ?_, ⟨sec, val, ser, kin, era, prg, new, nxt, opn, ops, fus, ent, ese, eva, eso, hX, hM, hW, hf2, hpt, hop, hfr, hB⟩⟩
    · rw [fX2_flush_8, if_pos (by decide)]
    · rw [fX3_flush_0, hM.1.2.2.2.2.2.2, he, if_pos (by decide)]
  | succ e ih =>
    intro N M c sec val ser kin era prg new nxt opn ops fus ent ese eva eso u v he hN hM' hX hM hW hc9 hf2 hpt hop hfr hB
    obtain ⟨N', rfl⟩ : ∃ N', N = N' + 1 := ⟨N - 1, by omega⟩
    obtain ⟨M', rfl⟩ : ∃ M', M = M' + 1 := ⟨M - 1, by omega⟩
    have h3 := hB.1
    rw [fX2_flush_8, if_neg (by rw [on0]; exact nI_ge (by omega) (by omega)), fX3_flush_0, hM.1.2.2.2.2.2.2, he, if_neg (by rw [on0]; exact nI_ge (by omega) (by omega))]
    obtain ⟨res, u1, v1, s1, s2, s3, s4, s5, s6, s7, s8, s9, s10, s11, a1, a2, a3, a4, a5, a6, a7⟩ := store_both hK hX hM hW (by omega) hf2 hpt hop hfr hB (by omega)
    rw [a1, a2, bsome, bsome]
    cases res with
    | false =>
      obtain ⟨b1, b2, b3, b4⟩ := a7 rfl
      obtain ⟨u2, v2, d1, d2, d3⟩ := (cut_both hK b1 b2 a3 (by omega) (by omega) a5 b4 (Or.inl b3)).rel (by omega)
      refine ⟨zI 1, u2, v2, ?_, ?_, d3.mono (by omega) hc9⟩
      · show (fX2_losePower (xN nb) K u1).bind _ = _
        rw [d1, bsome]
      · show (fX3_cut mN K v1).bind _ = _
        rw [d2, bsome]
    | true =>
      obtain ⟨b1, b2, b3, b4⟩ := a6 rfl
      obtain ⟨r, u2, v2, d1, d2, d3⟩ := ih N' M' (c + 11) _ _ _ _ _ _ _ _ _ _ _ _ _ _ _ u1 v1 (by omega) (by omega) (by omega) b1 b2 a3 (by omega) (by omega) a5 b3 b4 ⟨by omega, fun k hk => hB.2 (k + 1) (by omega)⟩
      refine ⟨r, u2, v2, ?_, ?_, d3.mono (by omega) hc9⟩
      · show fX2_flush_8 (xN nb) K N' (nI (e + 1) + zI (-1)) u1 = _
        rw [show zI (-1) = -1 from by decide, pk_m1]
        exact d1
      · exact d2
theorem flush_step {nb sp K : Nat} (hK : 60 < K) : Step1 (Rel nb sp) (fX2_flush (xN nb) K) (fX3_flush mN K) := by
  intro t u v ht hR
  obtain ⟨sec, val, ser, kin, era, prg, new, nxt, opn, ops, fus, ent, ese, eva, eso, hX, hM, hW, hf2, hpt, hop, hfr, hB⟩ := id hR
  have h3 := hB.1
  have hct : cT t = 100 * t := by unfold cT; omega
  unfold fX2_flush fX3_flush
  rw [hX.1.2.2.2.2.2.2]
  obtain ⟨r, u', v', h1, h2, hr⟩ := flush_loop hK ent K K (cT t) _ _ _ _ _ _ _ _ _ _ _ _ _ _ _ u v rfl (by omega) (by omega) hX hM hW (by omega) hf2 hpt hop hfr hB
  exact ⟨r, u', v', h1, h2, RelC.next hr ht (by omega)⟩
theorem cutS_step {nb sp K : Nat} (hK : 60 < K) : StepV (Rel nb sp) (fX2_cut (xN nb) K) (fX3_cut mN K) := by
  intro t u v ht hR
  obtain ⟨sec, val, ser, kin, era, prg, new, nxt, opn, ops, fus, ent, ese, eva, eso, hX, hM, hW, hf2, hpt, hop, hfr, hB⟩ := id hR
  have hct : cT t = 100 * t := by unfold cT; omega
  obtain ⟨u2, v2, d1, d2, d3⟩ := (cut_both hK hX hM hW (by omega) hf2 hpt (Or.inl hfr) (Or.inr hfr)).rel hf2
  refine ⟨u2, v2, ?_, d2, RelC.next (d := 5) d3 ht (by omega)⟩
  unfold fX2_cut
  rw [d1, bsome]
