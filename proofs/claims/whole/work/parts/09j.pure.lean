/-! ===== the calls that only answer ===== -/
section
variable {nb sp c K : Nat} {sec : Nat → Option Nat} {val : Nat → Int32} {ser : Nat → Nat} {kin : Nat → Int32} {era prg : Nat → Nat} {new : Nat → Option Nat} {nxt : Nat} {opn : Option Nat} {ops : Int32} {fus ent : Nat} {ese : Nat → Nat} {eva eso : Nat → Int32} {u : XU} {v : MU}
theorem page_ix (hW : WfP nb c sec ser kin era prg new nxt opn) (x : Int32) : (x < 0 ∨ (¬ x < 0 ∧ nI (4 * nb) ≤ x)) ∨ ∃ p, p < 4 * nb ∧ x = nI p := by
  have h12 := hW.1.2.1
  rcases pk_ix x (show 4 * nb < 2 ^ 31 by omega) with h | h | h
  · exact Or.inl (Or.inl h)
  · by_cases h0 : x < 0
    · exact Or.inl (Or.inl h0)
    · exact Or.inl (Or.inr ⟨h0, h⟩)
  · exact Or.inr h
theorem block_both (hX : RXP nb sp sec val ser kin era prg new nxt opn ops fus ent ese eva eso u) (hM : RMP nb sp sec val ser kin era prg new nxt opn ops fus ent ese eva eso v) (hW : WfP nb c sec ser kin era prg new nxt opn) (x : Int32) : (∃ b, b < nb ∧ x = nI b ∧ fX1_isBlock (xN nb) K x u = some (zI 1, u) ∧ fX3_isBlock mN K x v = some (zI 1, v)) ∨ (fX1_isBlock (xN nb) K x u = some (zI 0, u) ∧ fX3_isBlock mN K x v = some (zI 0, v)) := by
  have h12 := hW.1.2.1
  unfold fX1_isBlock fX3_isBlock
  rw [hX.1.2.2.1, hM.1.2.2.1]
  by_cases h0 : x < 0
  · rw [if_pos h0, if_pos h0]
    exact Or.inr ⟨rfl, rfl⟩
  · rw [if_neg h0, if_neg h0]
    by_cases h1 : nI nb ≤ x
    · rw [if_pos h1, if_pos h1]
      exact Or.inr ⟨rfl, rfl⟩
    · rw [if_neg h1, if_neg h1]
      obtain ⟨j, hj, hx, -⟩ := pk_mu h0 h1 (by omega)
      exact Or.inl ⟨j, hj, hx, rfl, rfl⟩
theorem isPr_both (hX : RXP nb sp sec val ser kin era prg new nxt opn ops fus ent ese eva eso u) (hM : RMP nb sp sec val ser kin era prg new nxt opn ops fus ent ese eva eso v) (hW : WfP nb c sec ser kin era prg new nxt opn) (x : Int32) : (∃ p, p < 4 * nb ∧ x = nI p ∧ fX1_isProgrammed (xN nb) K x u = some (zb (sec p).isSome, u) ∧ fX3_isPlace mN K x v = some (zI 1, v)) ∨ (fX1_isProgrammed (xN nb) K x u = some (zI 0, u) ∧ fX3_isPlace mN K x v = some (zI 0, v)) := by
  have h12 := hW.1.2.1
  unfold fX1_isProgrammed fX3_isPlace
  rw [hM.1.2.2.1, zn4, pk_mul, xN5]
  by_cases h0 : x < 0
  · rw [if_pos h0, if_pos h0]
    exact Or.inr ⟨rfl, rfl⟩
  · rw [if_neg h0, if_neg h0]
    by_cases h1 : nI (4 * nb) ≤ x
    · rw [if_pos h1, if_pos h1]
      exact Or.inr ⟨rfl, rfl⟩
    · rw [if_neg h1, if_neg h1]
      obtain ⟨p, hp, rfl, -⟩ := pk_mu h0 h1 (by omega)
      refine Or.inl ⟨p, hp, rfl, ?_, rfl⟩
      rw [vg_in hp (by omega), nI_clamp (by omega)]
      cases hs : sec p with
      | none => rw [if_pos ((hX.2.1 p hp).1 hs)]; rfl
      | some s => rw [((hX.2.1 p hp).2 s hs).1, if_neg (hW.2.2.2.1 p s hp hs).2.2]; rfl
end
theorem steps_all {nb sp K : Nat} (hK : 60 < K) : LawSteps K nb (Rel nb sp) := by
  refine ⟨fun t u v h => h.mono, ?_, fun x1 x2 => ?_, fun x1 => ?_, flush_step hK, cutS_step hK, fun x1 => ?_, fun x1 => ?_, fun x1 => ?_, ?_, fun x1 => ?_, fun x1 => ?_, fun x1 => ?_, fun x1 => ?_, fun x1 => ?_, ?_, ?_, ?_⟩
  -- sectors
  · refine obs fun t u v ht hR => ?_
    obtain ⟨sec, val, ser, kin, era, prg, new, nxt, opn, ops, fus, ent, ese, eva, eso, hX, hM, hW, -⟩ := hR
    refine ⟨nI (4 * (nb - 3)), rfl, ?_⟩
    unfold fX3_sectors
    rw [hM.1.2.2.1, zn4, zn3, pk_sub (by have := hW.1.1; omega), pk_mul]
  -- write
  · exact Step1.wrap (put_step hK x1 x2 (zI 1) (by decide))
  -- trim
  · exact Step1.wrap (put_step hK x1 (zI 0) (zI 2) (by decide))
  -- fuse
  · intro t u v ht hR
    obtain ⟨sec, val, ser, kin, era, prg, new, nxt, opn, ops, fus, ent, ese, eva, eso, hX, hM, hW, hf2, hpt, hop, hfr, hB⟩ := id hR
    unfold fX2_fuse fX3_fuse
    by_cases h0 : x1 < 0
    · rw [if_pos h0, if_pos h0]
      exact ⟨zI 0, u, v, rfl, rfl, hR.mono⟩
    · rw [if_neg h0, if_neg h0]
      by_cases h1 : x1 ≤ zI 1000
      · rw [if_pos h1, if_pos h1]
        obtain ⟨j, hj, rfl⟩ := nI_of2 (M := zI 1000) (n := 1000) (by decide) h0 h1
        refine ⟨zI 1, xu_s_fus u (nI j), mu_s_fus v (nI j), rfl, rfl, (show RelC nb sp (cT t + 0) _ _ from ⟨sec, val, ser, kin, era, prg, new, nxt, opn, ops, j, ent, ese, eva, eso, ?_, ?_, hW, hj, hpt, hop, hfr, hB⟩).next ht (by omega)⟩
        · obtain ⟨⟨g1, g2, g3, g4, g5, g6, g7⟩, gp⟩ := hX
          exact ⟨⟨g1, g2, g3, g4, g5, rfl, g7⟩, gp⟩
        · obtain ⟨⟨g1, g2, g3, g4, g5, g6, g7⟩, gp⟩ := hM
          exact ⟨⟨g1, g2, g3, g4, g5, rfl, g7⟩, gp⟩
      · rw [if_neg h1, if_neg h1]
        exact ⟨zI 0, u, v, rfl, rfl, hR.mono⟩
  -- read
  · refine obs fun t u v ht hR => ?_
    obtain ⟨sec, val, ser, kin, era, prg, new, nxt, opn, ops, fus, ent, ese, eva, eso, hX, hM, hW, hf2, hpt, hop, hfr, hB⟩ := hR
    have h3 := hB.1
    have h12 := hW.1.2.1
    unfold fX2_read fX3_read
    obtain ⟨o, f1, f2, fn, fs⟩ := find_both hK hX hM h3 x1
    rw [f1, bsome]
    rcases place_both hK hX hM hW x1 with ⟨s, hs, rfl, p1, p2, p3⟩ | ⟨hno, p1, p2⟩
    · rw [p2, bsome]
      show ∃ r, _ ∧ (if zI 1 = 0 then _ else (fX3_find mN K (nI s) v).bind _) = _
      rw [if_neg (show ¬ zI 1 = 0 from by decide), f2, bsome]
      cases o with
      | some k =>
        obtain ⟨hk, -⟩ := fs k rfl
        refine ⟨eva k, ?_, ?_⟩
        · show (if nI k = zI (-1) then _ else vg (nI k) (xN nb 11) (some (xu_bva u (nI k).toNatClampNeg, u))) = _
          rw [if_neg (nI_nem (by omega)), xN11, vg_in (by omega) (by omega), nI_clamp (by omega), (hX.2.2.2.2 k hk).2.1]
        · show (if nI k = zI (-1) then _ else vg (nI k) (mN 7) (some (mu_eva v (nI k).toNatClampNeg, v))) = _
          rw [if_neg (nI_nem (by omega)), mN7, vg_in (by omega) (by omega), nI_clamp (by omega), (hM.2.2.2 k hk).2.1]
      | none =>
        show ∃ r, (if cO none = zI (-1) then (fX2_place (xN nb) K (nI s) u).bind _ else _) = _ ∧ (if cO none = zI (-1) then (fX3_isSector mN K (nI s) v).bind _ else _) = _
        rw [if_pos cO_n, if_pos cO_n, p1, p2, bsome, bsome]
        show ∃ r, _ ∧ (if zI 1 = 0 then _ else (fX3_newest mN K (nI s) v).bind _) = _
        rw [if_neg (show ¬ zI 1 = 0 from by decide), p3, bsome]
        rcases new_at hW hs with hn | ⟨p, hn, hp, hsp⟩
        · rw [hn]
          exact ⟨zI 0, rfl, rfl⟩
        · rw [hn]
          refine ⟨val p, ?_, ?_⟩
          · show (if nI p = zI (-1) then _ else vg (nI p) (xN nb 4) (some (xu_val u (nI p).toNatClampNeg, u))) = _
            rw [if_neg (nI_nem (by omega)), xN4, vg_in (by omega) (by omega), nI_clamp (by omega), ((hX.2.1 p hp).2 s hsp).2.2.1]
          · show (if nI p = zI (-1) then _ else vg (nI p) (mN 2) (some (mu_val v (nI p).toNatClampNeg, v))) = _
            rw [if_neg (nI_nem (by omega)), mN2, vg_in (by omega) (by omega), nI_clamp (by omega), ((hM.2.1 p hp).2 s hsp).1]
    · cases o with
      | some k =>
        obtain ⟨hk, hke⟩ := fs k rfl
        exact absurd hke.symm (hno (ese k) (hB.2 k hk).1)
      | none =>
        refine ⟨zI 0, ?_, ?_⟩
        · show (if cO none = zI (-1) then (fX2_place (xN nb) K x1 u).bind _ else _) = _
          rw [if_pos cO_n, p1, bsome]
          rfl
        · rw [p2, bsome]
          show (if zI 0 = 0 then (fX3_isSector mN K x1 v).bind _ else _) = _
          rw [if_pos (by decide), p2, bsome]
          rfl
  -- holds
  · refine obs fun t u v ht hR => ?_
    obtain ⟨sec, val, ser, kin, era, prg, new, nxt, opn, ops, fus, ent, ese, eva, eso, hX, hM, hW, hf2, hpt, hop, hfr, hB⟩ := hR
    have h3 := hB.1
    have h12 := hW.1.2.1
    unfold fX2_holds fX3_holds
    obtain ⟨o, f1, f2, fn, fs⟩ := find_both hK hX hM h3 x1
    rw [f1, bsome]
    rcases place_both hK hX hM hW x1 with ⟨s, hs, rfl, p1, p2, p3⟩ | ⟨hno, p1, p2⟩
    · rw [p2, bsome]
      show ∃ r, _ ∧ (if zI 1 = 0 then _ else (fX3_find mN K (nI s) v).bind _) = _
      rw [if_neg (show ¬ zI 1 = 0 from by decide), f2, bsome]
      cases o with
      | some k =>
        obtain ⟨hk, -⟩ := fs k rfl
        refine ⟨eso k, ?_, ?_⟩
        · show (if nI k = zI (-1) then _ else vg (nI k) (xN nb 12) (some (xu_bki u (nI k).toNatClampNeg, u))) = _
          rw [if_neg (nI_nem (by omega)), xN12, vg_in (by omega) (by omega), nI_clamp (by omega), (hX.2.2.2.2 k hk).2.2]
        · show (if nI k = zI (-1) then _ else vg (nI k) (mN 8) (some (mu_eso v (nI k).toNatClampNeg, v))) = _
          rw [if_neg (nI_nem (by omega)), mN8, vg_in (by omega) (by omega), nI_clamp (by omega), (hM.2.2.2 k hk).2.2]
      | none =>
        show ∃ r, (if cO none = zI (-1) then (fX2_place (xN nb) K (nI s) u).bind _ else _) = _ ∧ (if cO none = zI (-1) then (fX3_isSector mN K (nI s) v).bind _ else _) = _
        rw [if_pos cO_n, if_pos cO_n, p1, p2, bsome, bsome]
        show ∃ r, _ ∧ (if zI 1 = 0 then _ else (fX3_newest mN K (nI s) v).bind _) = _
        rw [if_neg (show ¬ zI 1 = 0 from by decide), p3, bsome]
        rcases new_at hW hs with hn | ⟨p, hn, hp, hsp⟩
        · rw [hn]
          exact ⟨zI 0, rfl, rfl⟩
        · rw [hn]
          refine ⟨kin p, ?_, ?_⟩
          · show (if nI p = zI (-1) then _ else vg (nI p) (xN nb 5) (some (xu_kin u (nI p).toNatClampNeg, u))) = _
            rw [if_neg (nI_nem (by omega)), xN5, vg_in (by omega) (by omega), nI_clamp (by omega), ((hX.2.1 p hp).2 s hsp).1]
          · show (if nI p = zI (-1) then _ else vg (nI p) (mN 4) (some (mu_sor v (nI p).toNatClampNeg, v))) = _
            rw [if_neg (nI_nem (by omega)), mN4, vg_in (by omega) (by omega), nI_clamp (by omega), ((hM.2.1 p hp).2 s hsp).2.2]
    · cases o with
      | some k =>
        obtain ⟨hk, hke⟩ := fs k rfl
        exact absurd hke.symm (hno (ese k) (hB.2 k hk).1)
      | none =>
        refine ⟨zI 0, ?_, ?_⟩
        · show (if cO none = zI (-1) then (fX2_place (xN nb) K x1 u).bind _ else _) = _
          rw [if_pos cO_n, p1, bsome]
          rfl
        · rw [p2, bsome]
          show (if zI 0 = 0 then (fX3_isSector mN K x1 v).bind _ else _) = _
          rw [if_pos (by decide), p2, bsome]
          rfl
  -- buffered
  · refine obs fun t u v ht hR => ?_
    obtain ⟨sec, val, ser, kin, era, prg, new, nxt, opn, ops, fus, ent, ese, eva, eso, hX, hM, hW, -⟩ := hR
    refine ⟨nI ent, ?_, ?_⟩
    · unfold fX2_buffered; rw [hX.1.2.2.2.2.2.2]
    · unfold fX3_buffered; rw [hM.1.2.2.2.2.2.2]
  -- place
  · refine obs fun t u v ht hR => ?_
    obtain ⟨sec, val, ser, kin, era, prg, new, nxt, opn, ops, fus, ent, ese, eva, eso, hX, hM, hW, -⟩ := hR
    unfold fX3_place
    rcases place_both hK hX hM hW x1 with ⟨s, hs, rfl, p1, p2, p3⟩ | ⟨hno, p1, p2⟩
    · refine ⟨cO (new s), p1, ?_⟩
      rw [p2, bsome]
      show (if zI 1 = 0 then _ else (fX3_newest mN K (nI s) v).bind _) = _
      rw [if_neg (by decide), p3, bsome]
    · refine ⟨zI (-1), p1, ?_⟩
      rw [p2, bsome]
      rfl
  -- tag
  · refine obs fun t u v ht hR => ?_
    obtain ⟨sec, val, ser, kin, era, prg, new, nxt, opn, ops, fus, ent, ese, eva, eso, hX, hM, hW, -⟩ := hR
    have h12 := hW.1.2.1
    unfold fX2_tag fX3_tag
    rcases isPr_both (K := K) hX hM hW x1 with ⟨p, hp, rfl, e1, e2⟩ | ⟨e1, e2⟩
    · rw [e1, e2, bsome, bsome]
      refine ⟨cO (sec p), ?_, ?_⟩
      · cases hs : sec p with
        | none => rfl
        | some s =>
          show vg (nI p) (xN nb 3) (some (xu_own u (nI p).toNatClampNeg, u)) = _
          rw [xN3, vg_in hp (by omega), nI_clamp (by omega), ((hX.2.1 p hp).2 s hs).2.1]
          rfl
      · show vg (nI p) (mN 1) (some (mu_sec v (nI p).toNatClampNeg, v)) = _
        rw [mN1, vg_in (by omega) (by omega), nI_clamp (by omega), (hM.2.1 p hp).1]
    · rw [e1, e2, bsome, bsome]
      exact ⟨zI (-1), rfl, rfl⟩
  -- serial
  · refine obs fun t u v ht hR => ?_
    obtain ⟨sec, val, ser, kin, era, prg, new, nxt, opn, ops, fus, ent, ese, eva, eso, hX, hM, hW, -⟩ := hR
    have h12 := hW.1.2.1
    unfold fX2_serial fX3_serial
    rcases isPr_both (K := K) hX hM hW x1 with ⟨p, hp, rfl, e1, e2⟩ | ⟨e1, e2⟩
    · rw [e1, e2, bsome, bsome]
      have hG : ∀ r : Int32, (if cO (sec p) = zI (-1) then some (zI (-1), v) else some (mu_ser v p, v)) = some (r, v) → vg (nI p) (mN 1) (if mu_sec v (nI p).toNatClampNeg = zI (-1) then some (zI (-1), v) else vg (nI p) (mN 3) (some (mu_ser v (nI p).toNatClampNeg, v))) = some (r, v) := fun r h => by
        rw [mN1, vg_in (by omega) (by omega), nI_clamp (by omega), (hM.2.1 p hp).1, mN3, vg_in (by omega) (by omega)]
        exact h
      cases hs : sec p with
      | none => exact ⟨zI (-1), rfl, hG _ (by rw [hs]; exact if_pos cO_n)⟩
      | some s =>
        refine ⟨nI (ser p), ?_, hG _ (by rw [hs, if_neg (cO_sne (sec_lt hW hp s hs)), ((hM.2.1 p hp).2 s hs).2.1])⟩
        show vg (nI p) (xN nb 6) (some (xu_ser u (nI p).toNatClampNeg, u)) = _
        rw [xN6, vg_in hp (by omega), nI_clamp (by omega), ((hX.2.1 p hp).2 s hs).2.2.2]
    · rw [e1, e2, bsome, bsome]
      exact ⟨zI (-1), rfl, rfl⟩
  -- valid
  · refine obs fun t u v ht hR => ?_
    obtain ⟨sec, val, ser, kin, era, prg, new, nxt, opn, ops, fus, ent, ese, eva, eso, hX, hM, hW, -⟩ := hR
    unfold fX2_valid fX3_valid
    rcases block_both (K := K) hX hM hW x1 with ⟨b, hb, rfl, e1, e2⟩ | ⟨e1, e2⟩
    · rw [e1, e2, bsome, bsome]
      refine ⟨nI (vc sec new b), ?_, ?_⟩
      · show (fX1_countValid (xN nb) K (nI b) u).bind _ = _
        rw [X_countValid hK hX hW hb, bsome]
      · show (fX3_validIn mN K (nI b) v).bind _ = _
        rw [M_validIn hK hM.1.2.2.1 (fun p hp => (hM.2.1 p hp).1) (fun p s hp hs => ((hM.2.1 p hp).2 s hs).2.1) hW hb, bsome]
    · rw [e1, e2, bsome, bsome]
      exact ⟨zI (-1), rfl, rfl⟩
  -- erasures
  · refine obs fun t u v ht hR => ?_
    obtain ⟨sec, val, ser, kin, era, prg, new, nxt, opn, ops, fus, ent, ese, eva, eso, hX, hM, hW, -⟩ := hR
    have h12 := hW.1.2.1
    unfold fX2_erasures fX3_erasures
    rcases block_both (K := K) hX hM hW x1 with ⟨b, hb, rfl, e1, e2⟩ | ⟨e1, e2⟩
    · rw [e1, e2, bsome, bsome]
      refine ⟨nI (era b), ?_, ?_⟩
      · show vg (nI b) (xN nb 8) (some (xu_wea u (nI b).toNatClampNeg, u)) = _
        rw [xN8, vg_in hb (by omega), nI_clamp (by omega), (hX.2.2.1 b hb).2]
      · show vg (nI b) (mN 5) (some (mu_era v (nI b).toNatClampNeg, v)) = _
        rw [mN5, vg_in (by omega) (by omega), nI_clamp (by omega), hM.2.2.1 b hb]
    · rw [e1, e2, bsome, bsome]
      exact ⟨zI (-1), rfl, rfl⟩
  -- the open block
  · refine obs fun t u v ht hR => ?_
    obtain ⟨sec, val, ser, kin, era, prg, new, nxt, opn, ops, fus, ent, ese, eva, eso, hX, hM, hW, -⟩ := hR
    refine ⟨cO opn, ?_, ?_⟩
    · unfold fX2_open; rw [hX.1.2.1]
    · unfold fX3_open; rw [hM.1.2.1]
  -- free
  · refine obs fun t u v ht hR => ?_
    obtain ⟨sec, val, ser, kin, era, prg, new, nxt, opn, ops, fus, ent, ese, eva, eso, hX, hM, hW, -⟩ := hR
    refine ⟨nI (cntB (isZ prg) 0 nb), ?_, ?_⟩
    · unfold fX2_free
      rw [X_countFree hK hX hW, bsome]
    · unfold fX3_free
      rw [M_freeBlocks hK hM.1.2.2.1 (fun p hp => (hM.2.1 p hp).1) hW, bsome]
  -- operations
  · refine obs fun t u v ht hR => ?_
    obtain ⟨sec, val, ser, kin, era, prg, new, nxt, opn, ops, fus, ent, ese, eva, eso, hX, hM, hW, -⟩ := hR
    refine ⟨ops, ?_, ?_⟩
    · unfold fX2_operations; rw [hX.1.2.2.2.2.1]
    · unfold fX3_operations; rw [hM.1.2.2.2.2.1]
theorem rel_start {nb k : Nat} {f g : Nat → Int32} (h5 : 5 ≤ nb) (h12 : nb ≤ 12) (hf : ∀ j, j < 4 * (nb - 3) → f j = zI (-1)) (hg : ∀ j, j < 48 → g j = zI (-1)) : Rel nb k 0 (XU0 nb (nI k) f) (MU0 nb (nI k) g) := by
  refine ⟨fun _ => none, fun _ => 0, fun _ => 0, fun _ => 0, fun _ => 0, fun _ => 0, fun _ => none, 0, none, 0, 0, 0, fun _ => 0, fun _ => 0, fun _ => 0, ?_, ?_, ?_, by omega, ?_, ?_, ⟨0, by omega, rfl⟩, by omega, fun k hk => by omega⟩
  · exact ⟨⟨rfl, rfl, rfl, rfl, rfl, rfl, rfl⟩, fun p hp => ⟨fun _ => rfl, (fun s h => by cases h)⟩, fun b hb => ⟨rfl, rfl⟩, fun s hs => hf s hs, fun k hk => by omega⟩
  · exact ⟨⟨rfl, rfl, rfl, rfl, rfl, rfl, rfl⟩, fun p hp => ⟨hg p (by omega), (fun s h => by cases h)⟩, fun b hb => rfl, fun k hk => by omega⟩
  · refine ⟨⟨h5, h12, by unfold cT; omega⟩, ⟨Nat.zero_le _, fun b hb => Nat.zero_le _⟩, fun b hb => ⟨Nat.zero_le 4, fun q hq => ⟨fun h => absurd rfl h, fun h => absurd h (Nat.not_lt_zero q)⟩⟩, (fun p s hp h => by cases h), (fun p p' s s' h1 h2 h3 => by cases h3), fun s hs => Or.inl ⟨rfl, fun p hp h => by cases h⟩, (fun b h => by cases h)⟩
  · intro b hb h
    exact absurd h (Nat.lt_irrefl 0)
  · intro b h; cases h
