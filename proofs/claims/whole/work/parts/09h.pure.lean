/-! ===== the relation between class and reference behind t calls; every call keeps it ===== -/
def cT (t : Nat) : Nat := min (100 * t) 90000
def RelC (nb sp c : Nat) (u : XU) (v : MU) : Prop := ∃ (sec : Nat → Option Nat) (val : Nat → Int32) (ser : Nat → Nat) (kin : Nat → Int32) (era prg : Nat → Nat) (new : Nat → Option Nat) (nxt : Nat) (opn : Option Nat) (ops : Int32) (fus ent : Nat) (ese : Nat → Nat) (eva eso : Nat → Int32), RXP nb sp sec val ser kin era prg new nxt opn ops fus ent ese eva eso u ∧ RMP nb sp sec val ser kin era prg new nxt opn ops fus ent ese eva eso v ∧ WfP nb c sec ser kin era prg new nxt opn ∧ fus ≤ 1000 ∧ ptl nb prg opn ∧ (∀ b, opn = some b → 0 < prg b) ∧ (∃ z, z < nb ∧ prg z = 0) ∧ BufP nb ent ese eso
def Rel (nb sp t : Nat) (u : XU) (v : MU) : Prop := RelC nb sp (cT t) u v
theorem RelC.mono {nb sp c c' : Nat} {u : XU} {v : MU} (h : RelC nb sp c u v) (hc : c ≤ c') (h9 : c' ≤ 90000) : RelC nb sp c' u v := by
  obtain ⟨s1, s2, s3, s4, s5, s6, s7, s8, s9, s10, s11, s12, s13, s14, s15, a1, a2, a3, a4⟩ := h
  exact ⟨s1, s2, s3, s4, s5, s6, s7, s8, s9, s10, s11, s12, s13, s14, s15, a1, a2, Wf_mono a3 hc h9, a4⟩
theorem RelC.next {nb sp t d : Nat} {u : XU} {v : MU} (h : RelC nb sp (cT t + d) u v) (ht : t < 512) (hd : d ≤ 100) : Rel nb sp (t + 1) u v := h.mono (by unfold cT; omega) (by unfold cT; omega)
theorem Rel.mono {nb sp t : Nat} {u : XU} {v : MU} (h : Rel nb sp t u v) : Rel nb sp (t + 1) u v := by
  exact RelC.mono h (by unfold cT; omega) (by unfold cT; omega)
theorem obs {nb sp : Nat} {F : XU → Option (Int32 × XU)} {G : MU → Option (Int32 × MU)} (h : ∀ t u v, t < 512 → Rel nb sp t u v → ∃ r, F u = some (r, u) ∧ G v = some (r, v)) : Step1 (Rel nb sp) F G := fun t u v ht hR => by
  obtain ⟨r, h1, h2⟩ := h t u v ht hR
  exact ⟨r, u, v, h1, h2, hR.mono⟩
section
variable {nb sp c K : Nat} {sec : Nat → Option Nat} {val : Nat → Int32} {ser : Nat → Nat} {kin : Nat → Int32} {era prg : Nat → Nat} {new : Nat → Option Nat} {nxt : Nat} {opn : Option Nat} {ops : Int32} {fus ent : Nat} {ese : Nat → Nat} {eva eso : Nat → Int32} {u : XU} {v : MU}
theorem isS_both (hX : RXP nb sp sec val ser kin era prg new nxt opn ops fus ent ese eva eso u) (hM : RMP nb sp sec val ser kin era prg new nxt opn ops fus ent ese eva eso v) (hW : WfP nb c sec ser kin era prg new nxt opn) (x : Int32) : (∃ s, s < 4 * (nb - 3) ∧ x = nI s ∧ fX2_isSector (xN nb) K x u = some (zI 1, u) ∧ fX3_isSector mN K x v = some (zI 1, v)) ∨ ((∀ s, s < 4 * (nb - 3) → x ≠ nI s) ∧ fX2_isSector (xN nb) K x u = some (zI 0, u) ∧ fX3_isSector mN K x v = some (zI 0, v)) := by
  obtain ⟨⟨h5, h12, -⟩, -⟩ := hW
  have hsec : fX3_sectors mN K v = some (nI (4 * (nb - 3)), v) := by
    unfold fX3_sectors
    rw [hM.1.2.2.1, zn4, zn3, pk_sub (by omega), pk_mul]
  unfold fX2_isSector fX3_isSector
  rw [hsec, bsome, xN9]
  rcases pk_ix x (show 4 * (nb - 3) < 2 ^ 31 by omega) with h | h | ⟨j, hj, rfl⟩
  · rw [if_pos h, if_pos h]
    refine Or.inr ⟨fun s hs e => ?_, rfl, rfl⟩
    rw [e] at h
    exact nI_pos (by omega) h
  · have hn : ¬ x < 0 := fun hx => by
      rw [Int32.lt_iff_toInt_lt] at hx
      rw [Int32.le_iff_toInt_le, nI_toInt (by omega)] at h
      have e0 : (0 : Int32).toInt = 0 := by decide
      omega
    rw [if_neg hn, if_neg hn, if_pos h]
    refine Or.inr ⟨fun s hs e => ?_, rfl, ?_⟩
    · rw [e] at h
      exact nI_ge hs (by omega) h
    · show (if nI (4 * (nb - 3)) ≤ x then _ else _) = _
      rw [if_pos h]
  · refine Or.inl ⟨j, hj, rfl, ?_, ?_⟩
    · rw [if_neg (nI_pos (by omega)), if_neg (nI_ge hj (by omega))]
    · rw [if_neg (nI_pos (by omega))]
      show (if nI (4 * (nb - 3)) ≤ nI j then _ else _) = _
      rw [if_neg (nI_ge hj (by omega))]
theorem fd_loop (hX : RXP nb sp sec val ser kin era prg new nxt opn ops fus ent ese eva eso u) (hM : RMP nb sp sec val ser kin era prg new nxt opn ops fus ent ese eva eso v) (h3 : ent ≤ 3) (x : Int32) : ∀ r N j, j + r = ent → r < N → (∀ k, k < j → nI (ese k) ≠ x) → ∃ o, fX0_find_2 (xN nb) K N x (nI j) u = some (cO o, u) ∧ fX3_find_2 mN K N x (nI j) v = some (cO o, v) ∧ (o = none → ∀ k, k < ent → nI (ese k) ≠ x) ∧ ∀ k, o = some k → k < ent ∧ nI (ese k) = x := by
  intro r
  induction r with
  | zero =>
    intro N j hj hN hbf
    obtain ⟨N', rfl⟩ : ∃ N', N = N' + 1 := ⟨N - 1, by omega⟩
    refine ⟨none, ?_, ?_, fun _ k hk => hbf k (by omega), fun k h => by cases h⟩
    · rw [fX0_find_2, hX.1.2.2.2.2.2.2, if_pos (nI_le (by omega) (by omega))]; rfl
    · rw [fX3_find_2, hM.1.2.2.2.2.2.2, if_pos (nI_le (by omega) (by omega))]; rfl
  | succ r ih =>
    intro N j hj hN hbf
    obtain ⟨N', rfl⟩ : ∃ N', N = N' + 1 := ⟨N - 1, by omega⟩
    rw [fX0_find_2, hX.1.2.2.2.2.2.2, if_neg (nI_ge (by omega) (by omega)), xN10, vg_in (by omega) (by omega), nI_clamp (by omega), (hX.2.2.2.2 j (by omega)).1]
    rw [fX3_find_2, hM.1.2.2.2.2.2.2, if_neg (nI_ge (by omega) (by omega)), mN6, vg_in (by omega) (by omega), nI_clamp (by omega), (hM.2.2.2 j (by omega)).1, zn1, nI_add]
    by_cases h : nI (ese j) = x
    · rw [if_pos h, if_pos h]
      exact ⟨some j, rfl, rfl, (fun h => by cases h), fun k hk => by cases hk; exact ⟨by omega, h⟩⟩
    · rw [if_neg h, if_neg h]
      exact ih N' (j + 1) (by omega) (by omega) (fun k hk => by
        by_cases e : k = j
        · rw [e]; exact h
        · exact hbf k (by omega))
theorem find_both (hK : 60 < K) (hX : RXP nb sp sec val ser kin era prg new nxt opn ops fus ent ese eva eso u) (hM : RMP nb sp sec val ser kin era prg new nxt opn ops fus ent ese eva eso v) (h3 : ent ≤ 3) (x : Int32) : ∃ o, fX0_find (xN nb) K x u = some (cO o, u) ∧ fX3_find mN K x v = some (cO o, v) ∧ (o = none → ∀ k, k < ent → nI (ese k) ≠ x) ∧ ∀ k, o = some k → k < ent ∧ nI (ese k) = x := by
  unfold fX0_find fX3_find
  rw [zn0]
  exact fd_loop hX hM h3 x ent K 0 (by omega) (by omega) (fun k hk => by omega)
theorem new_at (hW : WfP nb c sec ser kin era prg new nxt opn) {s : Nat} (hs : s < 4 * (nb - 3)) : new s = none ∨ ∃ p, new s = some p ∧ p < 4 * nb ∧ sec p = some s := by
  rcases hW.2.2.2.2.2.1 s hs with ⟨h, -⟩ | ⟨p, h1, h2, h3, -⟩
  · exact Or.inl h
  · exact Or.inr ⟨p, h1, h2, h3⟩
theorem place_both (hK : 60 < K) (hX : RXP nb sp sec val ser kin era prg new nxt opn ops fus ent ese eva eso u) (hM : RMP nb sp sec val ser kin era prg new nxt opn ops fus ent ese eva eso v) (hW : WfP nb c sec ser kin era prg new nxt opn) (x : Int32) : (∃ s, s < 4 * (nb - 3) ∧ x = nI s ∧ fX2_place (xN nb) K x u = some (cO (new s), u) ∧ fX3_isSector mN K x v = some (zI 1, v) ∧ fX3_newest mN K x v = some (cO (new s), v)) ∨ ((∀ s, s < 4 * (nb - 3) → x ≠ nI s) ∧ fX2_place (xN nb) K x u = some (zI (-1), u) ∧ fX3_isSector mN K x v = some (zI 0, v)) := by
  have h12 := hW.1.2.1
  rcases isS_both (K := K) hX hM hW x with ⟨s, hs, rfl, e1, e2⟩ | ⟨hno, e1, e2⟩
  · refine Or.inl ⟨s, hs, rfl, ?_, e2, M_newest hK hM.1.2.2.1 (fun p hp => (hM.2.1 p hp).1) (fun p s hp hs => ((hM.2.1 p hp).2 s hs).2.1) hW hs⟩
    unfold fX2_place
    rw [e1, bsome]
    show (if zI 1 = 0 then _ else _) = _
    rw [if_neg (by decide), xN9, vg_in hs (by omega), nI_clamp (by omega), hX.2.2.2.1 s hs]
  · refine Or.inr ⟨hno, ?_, e2⟩
    unfold fX2_place
    rw [e1, bsome]
    rfl
/-- an entry is set at a place of the buffer, old or new -/
theorem set_both {k ent' s : Nat} {x y : Int32} (hX : RXP nb sp sec val ser kin era prg new nxt opn ops fus ent ese eva eso u) (hM : RMP nb sp sec val ser kin era prg new nxt opn ops fus ent ese eva eso v) (hB : BufP nb ent ese eso) (hk : k < ent') (he : ent' ≤ 3) (hent : ent ≤ ent') (hnew : ∀ j, j < ent' → j ≠ k → j < ent) (hs : s < 4 * (nb - 3)) (hy : y ≠ 0) : RXP nb sp sec val ser kin era prg new nxt opn ops fus ent' (upN ese k s) (upN eva k x) (upN eso k y) (xu_s_cnt (xu_s_bki (xu_s_bva (xu_s_bse u (upd (xu_bse u) k (nI s))) (upd (xu_bva u) k x)) (upd (xu_bki u) k y)) (nI ent')) ∧ RMP nb sp sec val ser kin era prg new nxt opn ops fus ent' (upN ese k s) (upN eva k x) (upN eso k y) (mu_s_eso (mu_s_eva (mu_s_ese (mu_s_ent v (nI ent')) (upd (mu_ese v) k (nI s))) (upd (mu_eva v) k x)) (upd (mu_eso v) k y)) ∧ BufP nb ent' (upN ese k s) (upN eso k y) := by
  obtain ⟨⟨g1, g2, g3, g4, g5, g6, g7⟩, gp, gb, gn, ge⟩ := hX
  obtain ⟨⟨k1, k2, k3, k4, k5, k6, k7⟩, kp, kb, ke⟩ := hM
  refine ⟨⟨⟨g1, g2, g3, g4, g5, g6, rfl⟩, gp, gb, gn, fun j hj => ?_⟩, ⟨⟨k1, k2, k3, k4, k5, k6, rfl⟩, kp, kb, fun j hj => ?_⟩, he, fun j hj => ?_⟩
  · show upd (xu_bse u) k (nI s) j = nI (upN ese k s j) ∧ upd (xu_bva u) k x j = upN eva k x j ∧ upd (xu_bki u) k y j = upN eso k y j
    by_cases e : j = k
    · subst e
      rw [upN_s, upN_s, upN_s, pk_us, pk_us, pk_us]
      exact ⟨rfl, rfl, rfl⟩
    · rw [upN_n e, upN_n e, upN_n e, pk_un e, pk_un e, pk_un e]
      exact ge j (hnew j hj e)
  · show upd (mu_ese v) k (nI s) j = nI (upN ese k s j) ∧ upd (mu_eva v) k x j = upN eva k x j ∧ upd (mu_eso v) k y j = upN eso k y j
    by_cases e : j = k
    · subst e
      rw [upN_s, upN_s, upN_s, pk_us, pk_us, pk_us]
      exact ⟨rfl, rfl, rfl⟩
    · rw [upN_n e, upN_n e, upN_n e, pk_un e, pk_un e, pk_un e]
      exact ke j (hnew j hj e)
  · by_cases e : j = k
    · subst e
      rw [upN_s, upN_s]
      exact ⟨hs, hy⟩
    · rw [upN_n e, upN_n e]
      exact hB.2 j (hnew j hj e)
/-- a new entry comes behind those that are there -/
theorem add_both {s : Nat} {x y : Int32} (hX : RXP nb sp sec val ser kin era prg new nxt opn ops fus ent ese eva eso u) (hM : RMP nb sp sec val ser kin era prg new nxt opn ops fus ent ese eva eso v) (hB : BufP nb ent ese eso) (he : ent < 3) (hs : s < 4 * (nb - 3)) (hy : y ≠ 0) : ∃ u', fX0_add (xN nb) K (nI s) x y u = some u' ∧ RXP nb sp sec val ser kin era prg new nxt opn ops fus (ent + 1) (upN ese ent s) (upN eva ent x) (upN eso ent y) u' ∧ RMP nb sp sec val ser kin era prg new nxt opn ops fus (ent + 1) (upN ese ent s) (upN eva ent x) (upN eso ent y) (mu_s_eso (mu_s_eva (mu_s_ese (mu_s_ent v (nI (ent + 1))) (upd (mu_ese v) ent (nI s))) (upd (mu_eva v) ent x)) (upd (mu_eso v) ent y)) ∧ BufP nb (ent + 1) (upN ese ent s) (upN eso ent y) := by
  obtain ⟨h1, h2, h3⟩ := set_both (k := ent) (ent' := ent + 1) (s := s) (x := x) (y := y) hX hM hB (by omega) (by omega) (by omega) (fun j h1 h2 => by omega) hs hy
  refine ⟨_, ?_, h1, h2, h3⟩
  have g7 := hX.1.2.2.2.2.2.2
  unfold fX0_add fX0_isFull
  rw [g7, if_neg (fun e => by have := nI_inj (by omega) (by omega) (e.trans zn3); omega), bsome]
  show (if zI 0 = 0 then vg (xu_cnt u) (xN nb 10) ((fX0_change (xN nb) K (xu_cnt u) x y (xu_s_bse u (upd (xu_bse u) (xu_cnt u).toNatClampNeg (nI s)))).bind fun z5 => some (xu_s_cnt z5 (xu_cnt z5 + zI 1))) else _) = _
  rw [if_pos (by decide), g7, xN10, vg_in (by omega) (by omega), nI_clamp (by omega)]
  unfold fX0_change
  rw [xN11, vg_in (by omega) (by omega), xN12, vg_in (by omega) (by omega), nI_clamp (by omega), bsome]
  show some (xu_s_cnt _ (xu_cnt u + zI 1)) = _
  rw [g7, zn1, nI_add]
end
