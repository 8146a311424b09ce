def isP (sec : Nat → Option Nat) (p : Nat) : Bool := (sec p).isSome
section
variable {nb sp c K : Nat} {sec : Nat → Option Nat} {val : Nat → Int32} {ser : Nat → Nat} {kin : Nat → Int32} {era prg : Nat → Nat} {new : Nat → Option Nat} {nxt : Nat} {opn : Option Nat} {ops : Int32} {fus ent : Nat} {ese : Nat → Nat} {eva eso : Nat → Int32} {u : XU} {v : MU}
/-- the pages of a block that are programmed are its first ones -/
theorem cnt_prg (hW : WfP nb c sec ser kin era prg new nxt opn) {b : Nat} (hb : b < nb) : cntB (isP sec) (4 * b) 4 = prg b := by
  obtain ⟨-, -, hpg, -⟩ := hW
  obtain ⟨h4, hq⟩ := hpg b hb
  have key : ∀ q, q < 4 → isP sec (4 * b + q) = decide (q < prg b) := fun q hq4 => by
    have := hq q hq4
    unfold isP
    cases hs : sec (4 * b + q) with
    | none =>
      rw [hs] at this
      have h1 : ¬ q < prg b := fun h => (this.mpr h) rfl
      simp [h1]
    | some s =>
      rw [hs] at this
      have h1 : q < prg b := this.mp (by simp)
      simp [h1]
  have k0 := key 0 (by omega)
  have k1 := key 1 (by omega)
  have k2 := key 2 (by omega)
  have k3 := key 3 (by omega)
  show (if isP sec (4 * b) then 1 else 0) + ((if isP sec (4 * b + 1) then 1 else 0) + ((if isP sec (4 * b + 2) then 1 else 0) + ((if isP sec (4 * b + 3) then 1 else 0) + 0))) = prg b
  rw [show isP sec (4 * b) = decide (0 < prg b) from k0, k1, k2, k3]
  rcases (show prg b = 0 ∨ prg b = 1 ∨ prg b = 2 ∨ prg b = 3 ∨ prg b = 4 by omega) with e | e | e | e | e <;> rw [e] <;> rfl
theorem sec_lt (hW : WfP nb c sec ser kin era prg new nxt opn) {p : Nat} (hp : p < 4 * nb) : ∀ k, sec p = some k → k < 2 ^ 31 := fun k hk => by
  have := (hW.2.2.2.1 p k hp hk).1
  have := hW.1.2.1
  omega
theorem M_pg_loop (hS : ∀ p, p < 4 * nb → mu_sec v p = cO (sec p)) (hW : WfP nb c sec ser kin era prg new nxt opn) {b : Nat} (hb : b < nb) : ∀ r N q acc, q + r = 4 → r < N → fX3_programmed_4 mN K N (nI b) (nI acc) (nI q) v = some (nI (acc + cntB (isP sec) (4 * b + q) r), v) := by
  have h12 := hW.1.2.1
  intro r
  induction r with
  | zero =>
    intro N q acc hq hN
    obtain ⟨N', rfl⟩ : ∃ N', N = N' + 1 := ⟨N - 1, by omega⟩
    rw [fX3_programmed_4, if_pos (by rw [zn4]; exact nI_le (by omega) (by omega))]
    rfl
  | succ r ih =>
    intro N q acc hq hN
    obtain ⟨N', rfl⟩ : ∃ N', N = N' + 1 := ⟨N - 1, by omega⟩
    rw [fX3_programmed_4, if_neg (by rw [zn4]; exact nI_ge (by omega) (by omega)), nI_page', mN1, vg_in (by omega) (by omega), nI_clamp (by omega), hS _ (by omega), zn1, nI_add, nI_add, zn0, nI_add]
    unfold cntB
    cases hv : sec (4 * b + q) with
    | none =>
      rw [if_pos cO_n, ih N' (q + 1) (acc + 0) (by omega) (by omega)]
      exact sm_nI (by rw [if_neg (by simp [isP, hv]), Nat.zero_add, Nat.add_zero]; rfl)
    | some s =>
      rw [if_neg (cO_sne (sec_lt hW (p := 4 * b + q) (by omega) s hv)), ih N' (q + 1) (acc + 1) (by omega) (by omega)]
      exact sm_nI (by rw [if_pos (by simp [isP, hv]), Nat.add_assoc]; rfl)
theorem M_programmed (hK : 60 < K) (hS : ∀ p, p < 4 * nb → mu_sec v p = cO (sec p)) (hW : WfP nb c sec ser kin era prg new nxt opn) {b : Nat} (hb : b < nb) : fX3_programmed mN K (nI b) v = some (nI (prg b), v) := by
  unfold fX3_programmed
  rw [zn0, M_pg_loop hS hW hb 4 K 0 0 (by omega) (by omega)]
  exact sm_nI (by rw [Nat.zero_add]; exact cnt_prg hW hb)
theorem M_fb_loop (hK : 60 < K) (hB : mu_blk v = nI nb) (hS : ∀ p, p < 4 * nb → mu_sec v p = cO (sec p)) (hW : WfP nb c sec ser kin era prg new nxt opn) : ∀ r N b acc, b + r = nb → r < N → fX3_freeBlocks_4 mN K N (nI acc) (nI b) v = some (nI (acc + cntB (isZ prg) b r), v) := by
  obtain ⟨⟨h5, h12, hc⟩, -, hpg, -⟩ := id hW
  intro r
  induction r with
  | zero =>
    intro N b acc hq hN
    obtain ⟨N', rfl⟩ : ∃ N', N = N' + 1 := ⟨N - 1, by omega⟩
    rw [fX3_freeBlocks_4, hB, if_pos (nI_le (by omega) (by omega))]
    rfl
  | succ r ih =>
    intro N b acc hq hN
    obtain ⟨N', rfl⟩ : ∃ N', N = N' + 1 := ⟨N - 1, by omega⟩
    have h4 := (hpg b (by omega)).1
    rw [fX3_freeBlocks_4, hB, if_neg (nI_ge (by omega) (by omega)), M_programmed hK hS hW (by omega), bsome, zn1, nI_add, nI_add, zn0, nI_add, on0]
    dsimp only
    unfold cntB
    by_cases hv : prg b = 0
    · rw [if_pos (by rw [hv]), ih N' (b + 1) (acc + 1) (by omega) (by omega)]
      exact sm_nI (by rw [if_pos (by simp [isZ, hv]), Nat.add_assoc])
    · rw [if_neg (fun e => hv (nI_inj (by omega) (by omega) e)), ih N' (b + 1) (acc + 0) (by omega) (by omega)]
      exact sm_nI (by rw [if_neg (by simp [isZ, hv]), Nat.zero_add, Nat.add_zero])
theorem M_freeBlocks (hK : 60 < K) (hB : mu_blk v = nI nb) (hS : ∀ p, p < 4 * nb → mu_sec v p = cO (sec p)) (hW : WfP nb c sec ser kin era prg new nxt opn) : fX3_freeBlocks mN K v = some (nI (cntB (isZ prg) 0 nb), v) := by
  have h12 := hW.1.2.1
  unfold fX3_freeBlocks
  rw [zn0, M_fb_loop hK hB hS hW nb K 0 0 (by omega) (by omega)]
  exact sm_nI (Nat.zero_add _)
/-- the newest page of a sector below p -/
def nwP (sec : Nat → Option Nat) (ser : Nat → Nat) (s p : Nat) (o : Option Nat) : Prop := (o = none ∧ ∀ p', p' < p → sec p' ≠ some s) ∨ ∃ j, o = some j ∧ j < p ∧ sec j = some s ∧ ∀ p', p' < p → sec p' = some s → ser p' ≤ ser j
theorem M_nw_loop (hB : mu_blk v = nI nb) (hS : ∀ p, p < 4 * nb → mu_sec v p = cO (sec p)) (hR : ∀ p s, p < 4 * nb → sec p = some s → mu_ser v p = nI (ser p)) (hW : WfP nb c sec ser kin era prg new nxt opn) {s : Nat} (hs : s < 4 * (nb - 3)) : ∀ r N p o, p + r = 4 * nb → r < N → nwP sec ser s p o → ∃ o', nwP sec ser s (4 * nb) o' ∧ fX3_newest_4 mN K N (nI s) (cO o) (nI p) v = some (cO o', v) := by
  obtain ⟨⟨h5, h12, hc⟩, ⟨hnx, her⟩, hpg, hs4, -⟩ := id hW
  intro r
  induction r with
  | zero =>
    intro N p o hq hN ho
    obtain ⟨N', rfl⟩ : ∃ N', N = N' + 1 := ⟨N - 1, by omega⟩
    have e : p = 4 * nb := by omega
    refine ⟨o, e ▸ ho, ?_⟩
    rw [fX3_newest_4, hB, zn4, pk_mul, if_pos (nI_le (by omega) (by omega))]
  | succ r ih =>
    intro N p o hq hN ho
    obtain ⟨N', rfl⟩ : ∃ N', N = N' + 1 := ⟨N - 1, by omega⟩
    have hp : p < 4 * nb := by omega
    have ih := fun o' => ih N' (p + 1) o' (by omega) (by omega)
    rw [fX3_newest_4, hB, zn4, pk_mul, if_neg (nI_ge (by omega) (by omega)), mN1, vg_in (by omega) (by omega), nI_clamp (by omega), hS p hp, zn1, nI_add, mN3, vg_in (by omega) (by omega)]
    by_cases hps : sec p = some s
    · rw [if_pos ((cO_some (sec_lt hW hp) (by omega)).mpr hps)]
      rcases ho with ⟨rfl, hno⟩ | ⟨j, rfl, hj, hsj, hmx⟩
      · rw [if_pos cO_n]
        exact ih (some p) (Or.inr ⟨p, rfl, by omega, hps, fun p' h1 h2 => by
          by_cases e : p' = p
          · rw [e]; exact Nat.le_refl _
          · exact absurd h2 (hno p' (by omega))⟩)
      · have b1 := (hs4 p s hp hps).2.1
        have b2 := (hs4 j s (by omega) hsj).2.1
        show ∃ o', _ ∧ (if nI j = zI (-1) then _ else vg (nI j) 48 (if mu_ser v p ≤ mu_ser v (nI j).toNatClampNeg then _ else _)) = _
        rw [if_neg (nI_nem (by omega)), vg_in (by omega) (by omega), nI_clamp (by omega), hR p s hp hps, hR j s (by omega) hsj]
        by_cases h : ser p ≤ ser j
        · rw [if_pos (nI_le h (by omega))]
          exact ih (some j) (Or.inr ⟨j, rfl, by omega, hsj, fun p' h1 h2 => by
            by_cases e : p' = p
            · rw [e]; exact h
            · exact hmx p' (by omega) h2⟩)
        · rw [if_neg (nI_ge (by omega) (by omega))]
          exact ih (some p) (Or.inr ⟨p, rfl, by omega, hps, fun p' h1 h2 => by
            by_cases e : p' = p
            · rw [e]; exact Nat.le_refl _
            · have := hmx p' (by omega) h2
              omega⟩)
    · rw [if_neg (fun e => hps ((cO_some (sec_lt hW hp) (by omega)).mp e))]
      refine ih o ?_
      rcases ho with ⟨rfl, hno⟩ | ⟨j, rfl, hj, hsj, hmx⟩
      · exact Or.inl ⟨rfl, fun p' h1 => by
          by_cases e : p' = p
          · rw [e]; exact hps
          · exact hno p' (by omega)⟩
      · exact Or.inr ⟨j, rfl, by omega, hsj, fun p' h1 h2 => by
          by_cases e : p' = p
          · rw [e] at h2; exact absurd h2 hps
          · exact hmx p' (by omega) h2⟩
theorem nw_new (hW : WfP nb c sec ser kin era prg new nxt opn) {s : Nat} (hs : s < 4 * (nb - 3)) {o : Option Nat} (h : nwP sec ser s (4 * nb) o) : o = new s := by
  obtain ⟨-, -, -, -, h5, h6, -⟩ := hW
  rcases h with ⟨rfl, hno⟩ | ⟨j, rfl, hj, hsj, hmx⟩
  · rcases h6 s hs with ⟨e, -⟩ | ⟨p, e, hp, hsp, -⟩
    · exact e.symm
    · exact absurd hsp (hno p hp)
  · rcases h6 s hs with ⟨-, hno⟩ | ⟨p, e, hp, hsp, hm⟩
    · exact absurd hsj (hno j hj)
    · have a1 := hmx p hp hsp
      have a2 := hm j hj hsj
      rw [e, h5 j p s s hj hp hsj hsp (by omega)]
theorem M_newest (hK : 60 < K) (hB : mu_blk v = nI nb) (hS : ∀ p, p < 4 * nb → mu_sec v p = cO (sec p)) (hR : ∀ p s, p < 4 * nb → sec p = some s → mu_ser v p = nI (ser p)) (hW : WfP nb c sec ser kin era prg new nxt opn) {s : Nat} (hs : s < 4 * (nb - 3)) : fX3_newest mN K (nI s) v = some (cO (new s), v) := by
  have h12 := hW.1.2.1
  unfold fX3_newest
  rw [zn0]
  obtain ⟨o, h1, h2⟩ := M_nw_loop (K := K) hB hS hR hW hs (4 * nb) K 0 none (by omega) (by omega) (Or.inl ⟨rfl, fun p' h => by omega⟩)
  rw [← nw_new hW hs h1]
  exact h2
theorem M_isValid (hK : 60 < K) (hB : mu_blk v = nI nb) (hS : ∀ p, p < 4 * nb → mu_sec v p = cO (sec p)) (hR : ∀ p s, p < 4 * nb → sec p = some s → mu_ser v p = nI (ser p)) (hW : WfP nb c sec ser kin era prg new nxt opn) {p : Nat} (hp : p < 4 * nb) : fX3_isValid mN K (nI p) v = some (zb (vld sec new p), v) := by
  obtain ⟨⟨h5, h12, hc⟩, -, -, hs4, -, hnw, -⟩ := id hW
  unfold fX3_isValid
  rw [mN1, vg_in (by omega) (by omega), vg_in (by omega) (by omega), nI_clamp (by omega), hS p hp]
  cases hs : sec p with
  | none => rw [if_pos cO_n]; simp [vld, hs, zb]
  | some s =>
    obtain ⟨a1, a2, a3⟩ := hs4 p s hp hs
    rw [if_neg (cO_sne (by omega))]
    show (fX3_newest mN K (nI s) v).bind _ = _
    rw [M_newest hK hB hS hR hW a1, bsome]
    dsimp only
    have hnb : ∀ k, new s = some k → k < 2 ^ 31 := fun k hk => by
      rcases hnw s a1 with ⟨e, -⟩ | ⟨q, e, hq, -⟩
      · rw [e] at hk; cases hk
      · rw [e] at hk; cases hk; omega
    by_cases h : new s = some p
    · rw [if_pos ((cO_some hnb (by omega)).mpr h)]; simp [vld, hs, h, zb]
    · rw [if_neg (fun e => h ((cO_some hnb (by omega)).mp e))]; simp [vld, hs, h, zb]
theorem M_vi_loop (hK : 60 < K) (hB : mu_blk v = nI nb) (hS : ∀ p, p < 4 * nb → mu_sec v p = cO (sec p)) (hR : ∀ p s, p < 4 * nb → sec p = some s → mu_ser v p = nI (ser p)) (hW : WfP nb c sec ser kin era prg new nxt opn) {b : Nat} (hb : b < nb) : ∀ r N q acc, q + r = 4 → r < N → fX3_validIn_4 mN K N (nI b) (nI acc) (nI q) v = some (nI (acc + cntB (vld sec new) (4 * b + q) r), v) := by
  intro r
  induction r with
  | zero =>
    intro N q acc hq hN
    obtain ⟨N', rfl⟩ : ∃ N', N = N' + 1 := ⟨N - 1, by omega⟩
    rw [fX3_validIn_4, if_pos (by rw [zn4]; exact nI_le (by omega) (by omega))]
    rfl
  | succ r ih =>
    intro N q acc hq hN
    obtain ⟨N', rfl⟩ : ∃ N', N = N' + 1 := ⟨N - 1, by omega⟩
    rw [fX3_validIn_4, if_neg (by rw [zn4]; exact nI_ge (by omega) (by omega)), nI_page', M_isValid hK hB hS hR hW (by omega), bsome, zn1, nI_add, nI_add, zn0, nI_add]
    dsimp only
    unfold cntB
    cases hv : vld sec new (4 * b + q) with
    | false =>
      rw [if_pos (by decide), ih N' (q + 1) (acc + 0) (by omega) (by omega)]
      exact sm_nI (by rw [if_neg (by decide)]; rw [Nat.zero_add]; rfl)
    | true =>
      rw [if_neg (by decide), ih N' (q + 1) (acc + 1) (by omega) (by omega)]
      exact sm_nI (by rw [if_pos rfl, Nat.add_assoc]; rfl)
theorem M_validIn (hK : 60 < K) (hB : mu_blk v = nI nb) (hS : ∀ p, p < 4 * nb → mu_sec v p = cO (sec p)) (hR : ∀ p s, p < 4 * nb → sec p = some s → mu_ser v p = nI (ser p)) (hW : WfP nb c sec ser kin era prg new nxt opn) {b : Nat} (hb : b < nb) : fX3_validIn mN K (nI b) v = some (nI (vc sec new b), v) := by
  unfold fX3_validIn
  rw [zn0, M_vi_loop hK hB hS hR hW hb 4 K 0 0 (by omega) (by omega)]
  exact sm_nI (Nat.zero_add _)
def bcs (cost : Nat → Nat) (o : Option Nat) : Nat := match o with
  | none => 0
  | some j => cost j
/-- the reference's choice of a block with k pages: by = true counts the valid pages first -/
theorem M_pk_loop (hK : 60 < K) (hB : mu_blk v = nI nb) (hS : ∀ p, p < 4 * nb → mu_sec v p = cO (sec p)) (hR : ∀ p s, p < 4 * nb → sec p = some s → mu_ser v p = nI (ser p)) (hE : ∀ b, b < nb → mu_era v b = nI (era b)) (hW : WfP nb c sec ser kin era prg new nxt opn) {ok : Nat → Bool} {k : Nat} (hk : k ≤ 4) (hok : ∀ b, b < nb → (ok b = true ↔ prg b = k)) (fw : Bool) : ∀ r N b, b + r = nb → r < N → fX3_pick_8 mN K N (nI k) (zb (!fw)) (cO (amin ok (vcost sec new era fw) b)) (nI (bcs (vcost sec new era fw) (amin ok (vcost sec new era fw) b))) (nI b) v = some (cO (amin ok (vcost sec new era fw) nb), v) := by
  obtain ⟨⟨h5, h12, hc⟩, ⟨-, her⟩, hpg, -⟩ := id hW
  intro r
  induction r with
  | zero =>
    intro N b hq hN
    obtain ⟨N', rfl⟩ : ∃ N', N = N' + 1 := ⟨N - 1, by omega⟩
    rw [fX3_pick_8, hB, if_pos (nI_le (by omega) (by omega))]
    have e : b = nb := by omega
    rw [e]
  | succ r ih =>
    intro N b hq hN
    obtain ⟨N', rfl⟩ : ∃ N', N = N' + 1 := ⟨N - 1, by omega⟩
    have h4 := (hpg b (by omega)).1
    have ih := ih N' (b + 1) (by omega) (by omega)
    have e1 := her b (by omega)
    rw [fX3_pick_8, hB, if_neg (nI_ge (by omega) (by omega)), mN5, vg_in (by omega) (by omega), nI_clamp (by omega), hE b (by omega), zn1, nI_add]
    have key : ∀ (cw : Nat), cw = vcost sec new era fw b → (if nI (prg b) = nI k then (if cO (amin ok (vcost sec new era fw) b) = zI (-1) then (fX3_pick_8 mN K N' (nI k) (zb (!fw)) (nI b) (nI cw) (nI (b + 1)) v) else (if nI (bcs (vcost sec new era fw) (amin ok (vcost sec new era fw) b)) ≤ nI cw then (fX3_pick_8 mN K N' (nI k) (zb (!fw)) (cO (amin ok (vcost sec new era fw) b)) (nI (bcs (vcost sec new era fw) (amin ok (vcost sec new era fw) b))) (nI (b + 1)) v) else (fX3_pick_8 mN K N' (nI k) (zb (!fw)) (nI b) (nI cw) (nI (b + 1)) v))) else (fX3_pick_8 mN K N' (nI k) (zb (!fw)) (cO (amin ok (vcost sec new era fw) b)) (nI (bcs (vcost sec new era fw) (amin ok (vcost sec new era fw) b))) (nI (b + 1)) v)) = some (cO (amin ok (vcost sec new era fw) nb), v) := by
      intro cw hcw
      have hcb : cw < 2 ^ 31 := by
        have := vval_le sec new fw b
        unfold vcost at hcw
        omega
      by_cases hv : prg b = k
      · have ho := (hok b (by omega)).mpr hv
        rw [if_pos (by rw [hv])]
        cases ha : amin ok (vcost sec new era fw) b with
        | none =>
          rw [amin_new ho ha] at ih
          rw [if_pos cO_n, hcw]
          exact ih
        | some j =>
          have hj := amin_lt ha
          have e2 := her j (by omega)
          have e3 := vval_le sec new fw j
          rw [if_neg (cO_sne (by omega))]
          show (if nI (vcost sec new era fw j) ≤ nI cw then _ else _) = _
          by_cases hc2 : vcost sec new era fw b < vcost sec new era fw j
          · rw [amin_is ho ha hc2] at ih
            rw [if_neg (nI_ge (by omega) (by unfold vcost; omega)), hcw]
            exact ih
          · rw [amin_st ho ha hc2] at ih
            rw [if_pos (nI_le (by omega) hcb)]
            exact ih
      · have ho : ok b = false := Bool.eq_false_iff.mpr (fun e => hv ((hok b (by omega)).mp e))
        rw [amin_no ho] at ih
        rw [if_neg (fun e => hv (nI_inj (by omega) (by omega) e))]
        exact ih
    cases fw with
    | true =>
      rw [if_pos (by decide), M_programmed hK hS hW (by omega), bsome, zn0, nI_add]
      exact key (era b + 0) (by simp [vcost, vval])
    | false =>
      rw [if_neg (by decide), M_validIn hK hB hS hR hW (by omega), bsome]
      show (fX3_programmed mN K (nI b) v).bind _ = _
      rw [M_programmed hK hS hW (by omega), bsome, zn100000]
      show (if nI (prg b) = nI k then (if _ then fX3_pick_8 mN K N' (nI k) _ (nI b) (nI (era b) + nI 100000 * nI (vc sec new b)) (nI (b + 1)) v else _) else _) = _
      rw [pk_mul, nI_add]
      exact key (era b + 100000 * vc sec new b) (by simp [vcost, vval])
theorem M_free0 (hK : 60 < K) (hB : mu_blk v = nI nb) (hS : ∀ p, p < 4 * nb → mu_sec v p = cO (sec p)) (hR : ∀ p s, p < 4 * nb → sec p = some s → mu_ser v p = nI (ser p)) (hE : ∀ b, b < nb → mu_era v b = nI (era b)) (hW : WfP nb c sec ser kin era prg new nxt opn) : fX3_pick mN K (zI 0) (zI 0) v = some (cO (amin (isZ prg) era nb), v) := by
  have h12 := hW.1.2.1
  have := M_pk_loop hK hB hS hR hE hW (ok := isZ prg) (k := 0) (by omega) (fun b _ => by simp [isZ]) true nb K 0 (by omega) (by omega)
  rw [amin_congr (ok' := isZ prg) (cost' := era) nb (fun _ _ => rfl) (fun b _ => by simp [vcost, vval])] at this
  unfold fX3_pick
  rw [zn0]
  exact this
theorem M_victim (hK : 60 < K) (hB : mu_blk v = nI nb) (hS : ∀ p, p < 4 * nb → mu_sec v p = cO (sec p)) (hR : ∀ p s, p < 4 * nb → sec p = some s → mu_ser v p = nI (ser p)) (hE : ∀ b, b < nb → mu_era v b = nI (era b)) (hW : WfP nb c sec ser kin era prg new nxt opn) (fw : Bool) : fX3_pick mN K (zI 4) (zb (!fw)) v = some (cO (amin (isF prg) (vcost sec new era fw) nb), v) := by
  have h12 := hW.1.2.1
  unfold fX3_pick
  rw [zn4, zn0]
  exact M_pk_loop hK hB hS hR hE hW (ok := isF prg) (k := 4) (by omega) (fun b _ => by simp [isF]) fw nb K 0 (by omega) (by omega)
end
