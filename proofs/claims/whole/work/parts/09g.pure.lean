/-! ===== the power is cut ===== -/
def mTail (K : Nat) (kk : MU → Option MU) (v : MU) : Option MU := (fX3_freeBlocks mN K v).bind fun z4 => (if 0 < z4.1 then (kk (mu_s_gon z4.2 (zI 0))) else ((fX3_pick mN K (zI 4) (zI 1) z4.2).bind fun z8 => ((fX3_collect mN K z8.1 z8.2).bind fun z10 => (if z10.1 = 0 then (kk (mu_s_gon z10.2 (zI 1))) else (kk (mu_s_gon z10.2 (zI 0)))))))
section
variable {nb sp c K : Nat} {sec : Nat → Option Nat} {val : Nat → Int32} {ser : Nat → Nat} {kin : Nat → Int32} {era prg : Nat → Nat} {new : Nat → Option Nat} {nxt : Nat} {opn : Option Nat} {ops : Int32} {fus ent : Nat} {ese : Nat → Nat} {eva eso : Nat → Int32} {u : XU} {v : MU}
theorem M_c34 (hK : 60 < K) {kk : MU → Option MU} {po : Option Nat} (hpo : prtP nb prg po) (hW : WfP nb c sec ser kin era prg new nxt opn) : ∀ r N b o v, b + r = nb → r < N → mu_blk v = nI nb → (∀ p, p < 4 * nb → mu_sec v p = cO (sec p)) → mu_opn v = cO o → ((o = none ∧ ∀ b', b' < b → ¬ (0 < prg b' ∧ prg b' < 4)) ∨ (o = po ∧ ∃ b', po = some b')) → fX3_cut_34 mN K kk N (nI b) v = fX3_cut_77 mN K kk K (zI 0) (mu_s_opn v (cO po)) := by
  obtain ⟨⟨h5, h12, hc⟩, -, hpg, -⟩ := id hW
  intro r
  induction r with
  | zero =>
    intro N b o v hq hN hB hS ho hcs
    obtain ⟨N', rfl⟩ : ∃ N', N = N' + 1 := ⟨N - 1, by omega⟩
    have e : o = po := by
      rcases hcs with ⟨h1, h2⟩ | ⟨h1, -⟩
      · rw [h1]
        cases hp : po with
        | none => rfl
        | some j =>
          have := hpo.1 j hp
          exact absurd ⟨this.2.1, this.2.2⟩ (h2 j (by omega))
      · exact h1
    rw [fX3_cut_34, hB, if_pos (nI_le (by omega) (by omega)), ← e, ← ho]
  | succ r ih =>
    intro N b o v hq hN hB hS ho hcs
    obtain ⟨N', rfl⟩ : ∃ N', N = N' + 1 := ⟨N - 1, by omega⟩
    have h4 := (hpg b (by omega)).1
    rw [fX3_cut_34, hB, if_neg (nI_ge (by omega) (by omega)), M_programmed hK hS hW (by omega), bsome, zn1, nI_add]
    show (if nI (prg b) ≤ 0 then _ else (if zI 4 ≤ nI (prg b) then _ else _)) = _
    have step : ∀ (x : Option Nat), ((x = none ∧ ∀ b', b' < b + 1 → ¬ (0 < prg b' ∧ prg b' < 4)) ∨ (x = po ∧ ∃ b', po = some b')) → fX3_cut_34 mN K kk N' (nI (b + 1)) (mu_s_opn v (cO x)) = fX3_cut_77 mN K kk K (zI 0) (mu_s_opn v (cO po)) := fun x hx => ih N' (b + 1) x (mu_s_opn v (cO x)) (by omega) (by omega) hB hS rfl hx
    have stay : ¬ (0 < prg b ∧ prg b < 4) → ((o = none ∧ ∀ b', b' < b + 1 → ¬ (0 < prg b' ∧ prg b' < 4)) ∨ (o = po ∧ ∃ b', po = some b')) := fun hn => by
      rcases hcs with ⟨h1, h2⟩ | h
      · refine Or.inl ⟨h1, fun b' hb' => ?_⟩
        by_cases e : b' = b
        · rw [e]; exact hn
        · exact h2 b' (by omega)
      · exact Or.inr h
    rw [on0, zn4]
    by_cases e0 : prg b = 0
    · rw [if_pos (nI_le (by omega) (by omega))]
      show fX3_cut_34 mN K kk N' (nI (b + 1)) (mu_s_opn v (mu_opn v)) = _
      rw [ho]
      exact step o (stay (by omega))
    · rw [if_neg (nI_ge (by omega) (by omega))]
      by_cases e4 : prg b = 4
      · rw [if_pos (nI_le (by omega) (by omega))]
        show fX3_cut_34 mN K kk N' (nI (b + 1)) (mu_s_opn v (mu_opn v)) = _
        rw [ho]
        exact step o (stay (by omega))
      · rw [if_neg (nI_ge (by omega) (by omega))]
        have hb := hpo.2 b (by omega) (by omega) (by omega)
        exact step (some b) (Or.inr ⟨hb.symm, b, hb⟩)
theorem M_c77 (hK : 60 < K) {kk : MU → Option MU} (hW : WfP nb c sec ser kin era prg new nxt opn) : ∀ r N p v, p + r = 4 * nb → r < N → mxs sec ser p ≤ c → mu_blk v = nI nb → (∀ p, p < 4 * nb → mu_sec v p = cO (sec p)) → (∀ p s, p < 4 * nb → sec p = some s → mu_ser v p = nI (ser p)) → mu_nxt v = nI (mxs sec ser p) → fX3_cut_77 mN K kk N (nI p) v = mTail K kk (mu_s_nxt v (nI (mxs sec ser (4 * nb)))) := by
  obtain ⟨⟨h5, h12, hc⟩, ⟨hnx, -⟩, -, hs4, -⟩ := id hW
  intro r
  induction r with
  | zero =>
    intro N p v hq hN hm hB hS hR hnv
    obtain ⟨N', rfl⟩ : ∃ N', N = N' + 1 := ⟨N - 1, by omega⟩
    have e : p = 4 * nb := by omega
    rw [fX3_cut_77, hB, zn4, pk_mul, if_pos (nI_le (by omega) (by omega)), ← e, ← hnv]
    rfl
  | succ r ih =>
    intro N p v hq hN hm hB hS hR hnv
    obtain ⟨N', rfl⟩ : ∃ N', N = N' + 1 := ⟨N - 1, by omega⟩
    have hp : p < 4 * nb := by omega
    rw [fX3_cut_77, hB, if_neg (show ¬ zI 4 * nI nb ≤ nI p from by rw [zn4, pk_mul]; exact nI_ge (by omega) (by omega)), mN1, vg_in (by omega) (by omega), nI_clamp (by omega), hS p hp, zn1, nI_add]
    cases hs : sec p with
    | none =>
      rw [if_pos cO_n]
      exact ih N' (p + 1) (mu_s_nxt v (mu_nxt v)) (by omega) (by omega) (by rw [mxs_n hs]; exact hm) hB hS hR (by rw [mxs_n hs]; exact hnv)
    | some s =>
      have hsp := (hs4 p s hp hs).2.1
      rw [if_neg (cO_sne (sec_lt hW hp s hs)), mN3, vg_in (by omega) (by omega), vg_in (by omega) (by omega), hR p s hp hs, hnv, nI_add]
      by_cases h : mxs sec ser p ≤ ser p
      · rw [if_neg (nI_nlt h (by omega))]
        exact ih N' (p + 1) (mu_s_nxt v (nI (ser p + 1))) (by omega) (by omega) (by rw [mxs_y hs h]; omega) hB hS hR (by rw [mxs_y hs h])
      · rw [if_pos (nI_lt (by omega) (by omega))]
        exact ih N' (p + 1) (mu_s_nxt v (nI (mxs sec ser p))) (by omega) (by omega) (by rw [mxs_k hs h]; exact hm) hB hS hR (by rw [mxs_k hs h])
theorem prt_ex (hpt : ptl nb prg opn) (hW : WfP nb c sec ser kin era prg new nxt opn) : ∃ po, prtP nb prg po ∧ (∀ b, po = some b → opn = some b) := by
  cases ho : opn with
  | none => exact ⟨none, ⟨(fun b h => by cases h), fun b hb h1 h2 => by have := hpt b hb h1 h2; rw [ho] at this; exact this⟩, fun b h => h⟩
  | some b0 =>
    by_cases h : 0 < prg b0 ∧ prg b0 < 4
    · refine ⟨some b0, ⟨fun b e => ?_, fun b hb h1 h2 => by have := hpt b hb h1 h2; rw [ho] at this; exact this⟩, fun b e => e⟩
      cases e
      exact ⟨hW.2.2.2.2.2.2 b0 ho, h.1, h.2⟩
    · refine ⟨none, ⟨(fun b e => by cases e), fun b hb h1 h2 => ?_⟩, (fun b e => by cases e)⟩
      have := hpt b hb h1 h2
      rw [ho] at this
      have := Option.some.inj this
      subst this
      exact absurd ⟨h1, h2⟩ h
theorem Wf_nxt (hW : WfP nb c sec ser kin era prg new nxt opn) (o : Option Nat) (ho : ∀ b, o = some b → b < nb) : WfP nb c sec ser kin era prg new (mxs sec ser (4 * nb)) o := by
  have hm := mxs_le hW (4 * nb) (Nat.le_refl _)
  obtain ⟨h1, ⟨hnx, her⟩, hpg, hs4, hds, hnw, -⟩ := hW
  exact ⟨h1, ⟨by omega, her⟩, hpg, fun p s hp hs => ⟨(hs4 p s hp hs).1, mxs_gt (4 * nb) p s hp hs, (hs4 p s hp hs).2.2⟩, hds, hnw, ho⟩
end
def CutP (nb sp c' fus : Nat) (F : Option XU) (G : Option MU) : Prop :=
  ∃ (u' : XU) (v' : MU) (sec' : Nat → Option Nat) (val' : Nat → Int32) (ser' : Nat → Nat) (kin' : Nat → Int32) (era' prg' : Nat → Nat) (new' : Nat → Option Nat) (nxt' : Nat) (opn' : Option Nat) (ops' : Int32) (fus' : Nat),
    F = some u' ∧ G = some v' ∧ (∀ (ese : Nat → Nat) (eva eso : Nat → Int32), RXP nb sp sec' val' ser' kin' era' prg' new' nxt' opn' ops' fus' 0 ese eva eso u' ∧ RMP nb sp sec' val' ser' kin' era' prg' new' nxt' opn' ops' fus' 0 ese eva eso v') ∧ WfP nb c' sec' ser' kin' era' prg' new' nxt' opn' ∧ fus' ≤ fus ∧ ptl nb prg' opn' ∧ (∀ b, opn' = some b → 0 < prg' b) ∧ ∃ z, z < nb ∧ prg' z = 0
section
variable {nb sp c K : Nat} {sec : Nat → Option Nat} {val : Nat → Int32} {ser : Nat → Nat} {kin : Nat → Int32} {era prg : Nat → Nat} {new : Nat → Option Nat} {nxt : Nat} {opn : Option Nat} {ops : Int32} {fus ent : Nat} {ese : Nat → Nat} {eva eso : Nat → Int32} {u : XU} {v : MU}
theorem cut_both (hK : 60 < K) (hX : RXP nb sp sec val ser kin era prg new nxt opn ops fus ent ese eva eso u) (hM : RMP nb sp sec val ser kin era prg new nxt opn ops fus ent ese eva eso v) (hW : WfP nb c sec ser kin era prg new nxt opn) (hc9 : c + 5 ≤ 90000) (hf2 : fus ≤ 1000) (hpt : ptl nb prg opn) (hok : CutOK nb sec prg new opn) (hfu : fus = 0 ∨ ∃ z, z < nb ∧ prg z = 0) : CutP nb sp (c + 5) fus (fX2_losePower (xN nb) K u) (fX3_cut mN K v) := by
  obtain ⟨po, hpo, hpoo⟩ := prt_ex hpt hW
  have h12 := hW.1.2.1
  have hm := mxs_le hW (4 * nb) (Nat.le_refl _)
  have hpol : ∀ b, po = some b → b < nb := fun b e => (hpo.1 b e).1
  have hW1 := Wf_nxt hW po hpol
  -- the class's state behind the first steps
  obtain ⟨⟨g1, g2, g3, g4, g5, g6, g7⟩, gp, gb, gn, ge⟩ := hX
  obtain ⟨⟨k1, k2, k3, k4, k5, k6, k7⟩, kp, kb, ke⟩ := hM
  have hXa : RXP nb sp sec val ser kin era prg new nxt opn ops fus 0 ese eva eso (xu_s_cnt u (zI 0)) := ⟨⟨g1, g2, g3, g4, g5, g6, zn0⟩, gp, gb, gn, fun k hk => by omega⟩
  have hXb := RX_opn hXa po
  have hXc : RXP nb sp sec val ser kin era prg new (mxs sec ser (4 * nb)) po ops fus 0 ese eva eso (xu_s_nxt (xu_s_opn (xu_s_cnt u (zI 0)) (cO po)) (nI (mxs sec ser (4 * nb)))) := ⟨⟨g1, rfl, g3, rfl, g5, g6, zn0⟩, gp, gb, gn, fun k hk => by omega⟩
  have hMc : RMP nb sp sec val ser kin era prg new (mxs sec ser (4 * nb)) po ops fus 0 ese eva eso (mu_s_nxt (mu_s_opn (mu_s_nxt (mu_s_opn (mu_s_ent (mu_s_gon (mu_s_gon v (zI 1)) (zI 0)) (zI 0)) (zI (-1))) (zI 0)) (cO po)) (nI (mxs sec ser (4 * nb)))) := ⟨⟨k1, rfl, k3, rfl, k5, k6, zn0⟩, kp, kb, fun k hk => by omega⟩
  generalize hu1 : xu_s_nxt (xu_s_opn (xu_s_cnt u (zI 0)) (cO po)) (nI (mxs sec ser (4 * nb))) = u1 at hXc
  generalize hv1 : mu_s_nxt (mu_s_opn (mu_s_nxt (mu_s_opn (mu_s_ent (mu_s_gon (mu_s_gon v (zI 1)) (zI 0)) (zI 0)) (zI (-1))) (zI 0)) (cO po)) (nI (mxs sec ser (4 * nb))) = v1 at hMc
  obtain ⟨N, rfl⟩ : ∃ N, K = N + 2 := ⟨K - 2, by omega⟩
  have hF : fX2_startAgain (xN nb) (N + 2) u = if 0 < nI (cntB (isZ prg) 0 nb) then some (zI 1, u1) else ((fX1_victim (xN nb) (N + 2) (zI 0) u1).bind fun z8 => ((fX2_collect (xN nb) (N + 2) z8.1 z8.2).bind fun z10 => (if z10.1 = 0 then (some (zI 0, z10.2)) else (some (zI 1, z10.2))))) := by
    unfold fX2_startAgain
    rw [X_part hK hXa hW hpo, bsome]
    show (fX1_greatestSerial (xN nb) (N + 2) (xu_s_opn (xu_s_cnt u (zI 0)) (cO po))).bind _ = _
    rw [X_greatest hK hXb (Wf_opn hW po hpol), bsome, zn1, gI_1]
    show (fX1_countFree (xN nb) (N + 2) (xu_s_nxt (xu_s_opn (xu_s_cnt u (zI 0)) (cO po)) (nI (mxs sec ser (4 * nb))))).bind _ = _
    rw [hu1, X_countFree hK hXc hW1, bsome, ← zn1]
  have hG : fX3_cut mN (N + 2) v = mTail (N + 2) (fX3_cut_5 mN (N + 2) (N + 1)) v1 := by
    unfold fX3_cut
    rw [fX3_cut_5]
    show (if zI 1 = 0 then _ else _) = _
    rw [if_neg (by decide)]
    refine (M_c34 hK hpo hW nb (N + 2) 0 none (mu_s_nxt (mu_s_opn (mu_s_ent (mu_s_gon (mu_s_gon v (zI 1)) (zI 0)) (zI 0)) (zI (-1))) (zI 0)) (by omega) (by omega) k3 (fun p hp => (kp p hp).1) rfl (Or.inl ⟨rfl, fun b' hb' => by omega⟩)).trans ?_
    refine (M_c77 hK hW (4 * nb) (N + 2) 0 (mu_s_opn (mu_s_nxt (mu_s_opn (mu_s_ent (mu_s_gon (mu_s_gon v (zI 1)) (zI 0)) (zI 0)) (zI (-1))) (zI 0)) (cO po)) (by omega) (by omega) (Nat.zero_le _) k3 (fun p hp => (kp p hp).1) (fun p s hp hs => ((kp p hp).2 s hs).2.1) zn0).trans ?_
    rw [hv1]
  have hkk : ∀ w : MU, fX3_cut_5 mN (N + 2) (N + 1) (mu_s_gon w (zI 0)) = some (mu_s_gon w (zI 0)) := fun w => by
    rw [fX3_cut_5]
    show (if zI 0 = 0 then _ else _) = _
    rw [if_pos (by decide)]
  rw [hG]
  unfold mTail
  rw [M_freeBlocks hK hMc.1.2.2.1 (fun p hp => (hMc.2.1 p hp).1) hW1, bsome]
  show CutP nb sp (c + 5) fus _ (if 0 < nI (cntB (isZ prg) 0 nb) then fX3_cut_5 mN (N + 2) (N + 1) (mu_s_gon v1 (zI 0)) else _)
  have hcl := cntB_le (isZ prg) nb 0
  by_cases hfr : ∃ z, z < nb ∧ prg z = 0
  · obtain ⟨z, hz, hz0⟩ := hfr
    have hpos : 0 < nI (cntB (isZ prg) 0 nb) := by
      rw [on0]
      exact nI_lt (cntB_pos (isZ prg) nb 0 z (by omega) (by omega) (by simp [isZ, hz0])) (by omega)
    rw [if_pos hpos, hkk]
    refine ⟨u1, mu_s_gon v1 (zI 0), sec, val, ser, kin, era, prg, new, mxs sec ser (4 * nb), po, ops, fus, ?_, rfl, fun ese' eva' eso' => ⟨⟨hXc.1, hXc.2.1, hXc.2.2.1, hXc.2.2.2.1, fun k hk => by omega⟩, hMc.1, hMc.2.1, hMc.2.2.1, fun k hk => by omega⟩, Wf_mono hW1 (by omega) hc9, Nat.le_refl _, fun b hb h1 h2 => hpo.2 b hb h1 h2, fun b hb => (hpo.1 b hb).2.1, ⟨z, hz, hz0⟩⟩
    unfold fX2_losePower
    rw [hF, if_pos hpos, bsome]
    rfl
  · have hn0 : cntB (isZ prg) 0 nb = 0 := cntB_zero nb 0 (fun i h1 h2 => by
      have : ¬ prg i = 0 := fun e => hfr ⟨i, by omega, e⟩
      simp [isZ, this])
    have hneg : ¬ 0 < nI (cntB (isZ prg) 0 nb) := by
      rw [hn0, on0]
      exact nI_nlt (Nat.le_refl 0) (by omega)
    have hf0 : fus = 0 := by
      rcases hfu with h | h
      · exact h
      · exact absurd h hfr
    obtain ⟨b, w, ho, hw, hwb, hw4, hbw⟩ : ∃ b w, opn = some b ∧ w < nb ∧ w ≠ b ∧ prg w = 4 ∧ prg b + vc sec new w ≤ 4 := by
      rcases hok with h | h
      · exact absurd h hfr
      · exact h
    have hb := hW.2.2.2.2.2.2 b ho
    have hb0 : prg b ≠ 0 := fun e => hfr ⟨b, hb, e⟩
    obtain ⟨w', hw', hwn', hwF', hwc'⟩ := amin_ex (ok := isF prg) (cost := vcost sec new era false) hw (by simp [isF, hw4])
    have hw4' : prg w' = 4 := by simpa [isF] using hwF'
    have hvc : vc sec new w' ≤ vc sec new w := by
      have e1 := hW.2.1.2 w' hwn'
      have e2 := hW.2.1.2 w hw
      have e3 := hW.1.2.2
      simp only [vcost, vval] at hwc'
      simp at hwc'
      omega
    have hpow : po ≠ some w' := fun e => by have := hpo.1 w' e; omega
    have hpob : ∀ b', po = some b' → b' = b := fun b' e => Option.some.inj ((hpoo b' e).symm.trans ho)
    have hroom : vc sec new w' = 0 ∨ ∃ b, po = some b ∧ prg b + vc sec new w' ≤ 4 := by
      by_cases h4 : prg b < 4
      · exact Or.inr ⟨b, hpo.2 b hb (by omega) h4, by omega⟩
      · exact Or.inl (by omega)
    obtain ⟨res, u2, v2, s1, s2, s3, s4, s5, s6, s7, s8, s9, s10, a1, a2, a3, a4, a5, a6, a7, a8, a9⟩ := collect_both hK hXc hMc hW1 hc9 hf2 hwn' hpow hroom
    cases res with
    | false => exact absurd hf0 (a9 rfl).2.1
    | true =>
      obtain ⟨b1, b2⟩ := a8 rfl
      rw [if_neg hneg]
      have hpk := M_victim hK hMc.1.2.2.1 (fun p hp => (hMc.2.1 p hp).1) (fun p s hp hs => ((hMc.2.1 p hp).2 s hs).2.1) hMc.2.2.1 hW1 false
      have hpk : fX3_pick mN (N + 2) (zI 4) (zI 1) v1 = some (cO (amin (isF prg) (vcost sec new era false) nb), v1) := hpk
      rw [hpk, bsome, hw']
      show CutP nb sp (c + 5) fus _ ((fX3_collect mN (N + 2) (nI w') v1).bind _)
      rw [a2, bsome]
      show CutP nb sp (c + 5) fus _ (if zb true = 0 then _ else fX3_cut_5 mN (N + 2) (N + 1) (mu_s_gon v2 (zI 0)))
      rw [if_neg (by decide), hkk]
      refine ⟨u2, mu_s_gon v2 (zI 0), s1, s2, s3, s4, s5, s6, s7, s8, po, s9, s10, ?_, rfl, fun ese' eva' eso' => ⟨⟨a3.1, a3.2.1, a3.2.2.1, a3.2.2.2.1, fun k hk => by omega⟩, a4.1, a4.2.1, a4.2.2.1, fun k hk => by omega⟩, a5, a6, fun i hi h1 h2 => ?_, fun i hi => ?_, ⟨w', hwn', b1⟩⟩
      · unfold fX2_losePower
        have hvx : fX1_victim (xN nb) (N + 2) (zI 0) u1 = some (cO (amin (isF prg) (vcost sec new era false) nb), u1) := X_victim hK hXc hW1 false
        rw [hF, if_neg hneg, hvx, bsome, hw']
        show (((fX2_collect (xN nb) (N + 2) (nI w') u1).bind _).bind _) = _
        rw [a1, bsome]
        show ((if zb true = 0 then _ else _) : Option (Int32 × XU)).bind _ = _
        rw [if_neg (by decide), bsome]
        rfl
      · by_cases e1 : i = w'
        · rw [e1] at h1; omega
        · by_cases e2 : po = some i
          · exact e2
          · rw [a7 i e2 e1] at h1 h2
            exact hpo.2 i hi h1 h2
      · have := b2 i hi
        have := (hpo.1 i hi).2.1
        omega
end
