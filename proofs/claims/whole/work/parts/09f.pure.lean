/-! ===== the buffer, and storing its first entry ===== -/
def shN {α : Type} (f : Nat → α) : Nat → α := fun k => f (k + 1)
section
variable {nb sp c K : Nat} {sec : Nat → Option Nat} {val : Nat → Int32} {ser : Nat → Nat} {kin : Nat → Int32} {era prg : Nat → Nat} {new : Nat → Option Nat} {nxt : Nat} {opn : Option Nat} {ops : Int32} {fus ent : Nat} {ese : Nat → Nat} {eva eso : Nat → Int32} {u : XU} {v : MU}
theorem X_dr_loop (h3 : ent ≤ 3) : ∀ r N j u, j + r = ent → 1 ≤ j → r < N → ((xu_spr u = nI sp ∧ xu_opn u = cO opn ∧ xu_blk u = nI nb ∧ xu_nxt u = nI nxt ∧ xu_ops u = ops ∧ xu_fus u = nI fus ∧ xu_cnt u = nI ent) ∧
  (∀ p, p < 4 * nb → (sec p = none → xu_kin u p = 0) ∧ ∀ s, sec p = some s → xu_kin u p = kin p ∧ xu_own u p = nI s ∧ xu_val u p = val p ∧ xu_ser u p = nI (ser p)) ∧
  (∀ b, b < nb → xu_prg u b = nI (prg b) ∧ xu_wea u b = nI (era b)) ∧
  (∀ s, s < 4 * (nb - 3) → xu_new u s = cO (new s)) ∧ (∀ k, k + 1 < j → xu_bse u k = nI (ese (k + 1)) ∧ xu_bva u k = eva (k + 1) ∧ xu_bki u k = eso (k + 1)) ∧ (∀ k, j ≤ k → k < ent → xu_bse u k = nI (ese k) ∧ xu_bva u k = eva k ∧ xu_bki u k = eso k)) → ∃ u', fX0_dropFirst_2 (xN nb) K N (nI j) u = some u' ∧ RXP nb sp sec val ser kin era prg new nxt opn ops fus (ent - 1) (shN ese) (shN eva) (shN eso) u' := by
  intro r
  induction r with
  | zero =>
    intro N j u hj h1 hN ⟨⟨g1, g2, g3, g4, g5, g6, g7⟩, gp, gb, gn, ga, gz⟩
    obtain ⟨N', rfl⟩ : ∃ N', N = N' + 1 := ⟨N - 1, by omega⟩
    refine ⟨xu_s_cnt u (nI (ent - 1)), ?_, ⟨g1, g2, g3, g4, g5, g6, rfl⟩, gp, gb, gn, fun k hk => ga k (by omega)⟩
    rw [fX0_dropFirst_2, g7, if_pos (nI_le (by omega) (by omega)), zn1, pk_sub (by omega)]
  | succ r ih =>
    intro N j u hj h1 hN ⟨⟨g1, g2, g3, g4, g5, g6, g7⟩, gp, gb, gn, ga, gz⟩
    obtain ⟨N', rfl⟩ : ∃ N', N = N' + 1 := ⟨N - 1, by omega⟩
    rw [fX0_dropFirst_2, g7, if_neg (nI_ge (by omega) (by omega)), zn1, pk_sub h1, nI_add, xN10, xN11, xN12]
    repeat rw [vg_in (by omega) (by omega)]
    rw [nI_clamp (by omega), nI_clamp (by omega)]
    refine ih N' (j + 1) _ (by omega) (by omega) (by omega) ⟨⟨g1, g2, g3, g4, g5, g6, g7⟩, gp, gb, gn, fun k hk => ?_, fun k hk1 hk2 => ?_⟩
    · show upd (xu_bse u) (j - 1) (xu_bse u j) k = _ ∧ upd (xu_bva u) (j - 1) (xu_bva u j) k = _ ∧ upd (xu_bki u) (j - 1) (xu_bki u j) k = _
      by_cases e : k = j - 1
      · subst e
        rw [pk_us, pk_us, pk_us, show j - 1 + 1 = j from by omega]
        exact gz j (Nat.le_refl _) (by omega)
      · rw [pk_un e, pk_un e, pk_un e]
        exact ga k (by omega)
    · show upd (xu_bse u) (j - 1) (xu_bse u j) k = _ ∧ upd (xu_bva u) (j - 1) (xu_bva u j) k = _ ∧ upd (xu_bki u) (j - 1) (xu_bki u j) k = _
      rw [pk_un (by omega), pk_un (by omega), pk_un (by omega)]
      exact gz k (by omega) hk2
theorem X_drop (hK : 60 < K) (hX : RXP nb sp sec val ser kin era prg new nxt opn ops fus ent ese eva eso u) (h1 : 1 ≤ ent) (h3 : ent ≤ 3) : ∃ u', fX0_dropFirst (xN nb) K u = some u' ∧ RXP nb sp sec val ser kin era prg new nxt opn ops fus (ent - 1) (shN ese) (shN eva) (shN eso) u' := by
  obtain ⟨g1, gp, gb, gn, ge⟩ := hX
  unfold fX0_dropFirst
  rw [zn1]
  exact X_dr_loop h3 (ent - 1) K 1 u (by omega) (by omega) (by omega) ⟨g1, gp, gb, gn, fun k hk => by omega, fun k _ hk => ge k hk⟩
theorem M_st_loop (h3 : ent ≤ 3) (he1 : 1 ≤ ent) : ∀ r N j v, j + r = ent - 1 → r < N → ((mu_spr v = nI sp ∧ mu_opn v = cO opn ∧ mu_blk v = nI nb ∧ mu_nxt v = nI nxt ∧ mu_ops v = ops ∧ mu_fus v = nI fus ∧ mu_ent v = nI (ent - 1)) ∧
  (∀ p, p < 4 * nb → mu_sec v p = cO (sec p) ∧ ∀ s, sec p = some s → mu_val v p = val p ∧ mu_ser v p = nI (ser p) ∧ mu_sor v p = kin p) ∧
  (∀ b, b < nb → mu_era v b = nI (era b)) ∧ (∀ k, k < j → mu_ese v k = nI (ese (k + 1)) ∧ mu_eva v k = eva (k + 1) ∧ mu_eso v k = eso (k + 1)) ∧ (∀ k, j ≤ k → k < ent → mu_ese v k = nI (ese k) ∧ mu_eva v k = eva k ∧ mu_eso v k = eso k)) → ∃ v', fX3_store_46 mN K N (nI j) v = some (zI 1, v') ∧ RMP nb sp sec val ser kin era prg new nxt opn ops fus (ent - 1) (shN ese) (shN eva) (shN eso) v' := by
  intro r
  induction r with
  | zero =>
    intro N j v hj hN ⟨g, gp, gb, ga, gz⟩
    obtain ⟨N', rfl⟩ : ∃ N', N = N' + 1 := ⟨N - 1, by omega⟩
    refine ⟨v, ?_, g, gp, gb, fun k hk => ga k (by omega)⟩
    rw [fX3_store_46, g.2.2.2.2.2.2, if_pos (nI_le (by omega) (by omega))]
  | succ r ih =>
    intro N j v hj hN ⟨g, gp, gb, ga, gz⟩
    obtain ⟨N', rfl⟩ : ∃ N', N = N' + 1 := ⟨N - 1, by omega⟩
    rw [fX3_store_46, g.2.2.2.2.2.2, if_neg (nI_ge (by omega) (by omega)), zn1, nI_add, mN6, mN7, mN8]
    repeat rw [vg_in (by omega) (by omega)]
    rw [nI_clamp (by omega), nI_clamp (by omega)]
    refine ih N' (j + 1) _ (by omega) (by omega) ⟨g, gp, gb, fun k hk => ?_, fun k hk1 hk2 => ?_⟩
    · show upd (mu_ese v) j (mu_ese v (j + 1)) k = _ ∧ upd (mu_eva v) j (mu_eva v (j + 1)) k = _ ∧ upd (mu_eso v) j (mu_eso v (j + 1)) k = _
      by_cases e : k = j
      · subst e
        rw [pk_us, pk_us, pk_us]
        exact gz (k + 1) (by omega) (by omega)
      · rw [pk_un e, pk_un e, pk_un e]
        exact ga k (by omega)
    · show upd (mu_ese v) j (mu_ese v (j + 1)) k = _ ∧ upd (mu_eva v) j (mu_eva v (j + 1)) k = _ ∧ upd (mu_eso v) j (mu_eso v (j + 1)) k = _
      rw [pk_un (by omega), pk_un (by omega), pk_un (by omega)]
      exact gz k (by omega) hk2
end
def BufP (nb ent : Nat) (ese : Nat → Nat) (eso : Nat → Int32) : Prop := ent ≤ 3 ∧ ∀ k, k < ent → ese k < 4 * (nb - 3) ∧ eso k ≠ 0
def StoreP (nb sp c' fus ent : Nat) (ese : Nat → Nat) (eva eso : Nat → Int32) (F : Option (Int32 × XU)) (G : Option (Int32 × MU)) : Prop :=
  ∃ (res : Bool) (u' : XU) (v' : MU) (sec' : Nat → Option Nat) (val' : Nat → Int32) (ser' : Nat → Nat) (kin' : Nat → Int32) (era' prg' : Nat → Nat) (new' : Nat → Option Nat) (nxt' : Nat) (opn' : Option Nat) (ops' : Int32) (fus' : Nat),
    F = some (zb res, u') ∧ G = some (zb res, v') ∧ WfP nb c' sec' ser' kin' era' prg' new' nxt' opn' ∧ fus' ≤ fus ∧ ptl nb prg' opn' ∧
    (res = true → RXP nb sp sec' val' ser' kin' era' prg' new' nxt' opn' ops' fus' (ent - 1) (shN ese) (shN eva) (shN eso) u' ∧ RMP nb sp sec' val' ser' kin' era' prg' new' nxt' opn' ops' fus' (ent - 1) (shN ese) (shN eva) (shN eso) v' ∧ (∀ b, opn' = some b → 0 < prg' b) ∧ ∃ z, z < nb ∧ prg' z = 0) ∧
    (res = false → RXP nb sp sec' val' ser' kin' era' prg' new' nxt' opn' ops' fus' ent ese eva eso u' ∧ RMP nb sp sec' val' ser' kin' era' prg' new' nxt' opn' ops' fus' ent ese eva eso v' ∧ fus' = 0 ∧ CutOK nb sec' prg' new' opn')
section
variable {nb sp c K : Nat} {sec : Nat → Option Nat} {val : Nat → Int32} {ser : Nat → Nat} {kin : Nat → Int32} {era prg : Nat → Nat} {new : Nat → Option Nat} {nxt : Nat} {opn : Option Nat} {ops : Int32} {fus ent : Nat} {ese : Nat → Nat} {eva eso : Nat → Int32} {u : XU} {v : MU}
theorem store_both (hK : 60 < K) (hX : RXP nb sp sec val ser kin era prg new nxt opn ops fus ent ese eva eso u) (hM : RMP nb sp sec val ser kin era prg new nxt opn ops fus ent ese eva eso v) (hW : WfP nb c sec ser kin era prg new nxt opn) (hc9 : c + 11 ≤ 90000) (hf2 : fus ≤ 1000) (hpt : ptl nb prg opn) (hop : ∀ b, opn = some b → 0 < prg b) (hfr : ∃ z, z < nb ∧ prg z = 0) (hB : BufP nb ent ese eso) (h1 : 1 ≤ ent) : StoreP nb sp (c + 11) fus ent ese eva eso (fX2_storeFirst (xN nb) K u) (fX3_store mN K v) := by
  obtain ⟨res, u1, v1, s1, s2, s3, s4, s5, s6, s7, s8, o', s9, s10, a1, a2, a3, a4, a5, a6, a7, a8, a9⟩ := room_both hK hX hM hW (by omega) hf2 hpt hop hfr
  have h12 := hW.1.2.1
  have h3 := hB.1
  unfold fX2_storeFirst fX3_store
  rw [a1, a2, bsome, bsome]
  cases res with
  | false =>
    obtain ⟨b1, b2⟩ := a9 rfl
    exact ⟨false, u1, v1, s1, s2, s3, s4, s5, s6, s7, s8, o', s9, s10, rfl, rfl, Wf_mono a5 (by omega) hc9, a6, a7, (fun h => by cases h), fun _ => ⟨a3, a4, b1, b2⟩⟩
  | true =>
    obtain ⟨b, z, ho, hp, hz, hz0, hzb⟩ := a8 rfl
    have hb := a5.2.2.2.2.2.2 b ho
    show StoreP nb sp (c + 11) fus ent ese eva eso (if zb true = 0 then _ else _) (if zb true = 0 then _ else _)
    rw [if_neg (show ¬ zb true = 0 from by decide), if_neg (show ¬ zb true = 0 from by decide), zn0, xN10, xN11, xN12, mN6, mN7, mN8]
    repeat rw [vg_in (by omega) (by omega)]
    obtain ⟨x1, x2, x3⟩ := a3.2.2.2.2 0 (by omega)
    obtain ⟨y1, y2, y3⟩ := a4.2.2.2 0 (by omega)
    obtain ⟨hs, hk⟩ := hB.2 0 (by omega)
    rw [nI_clamp (by omega)]
    show StoreP nb sp (c + 11) fus ent ese eva eso ((fX1_program (xN nb) K (xu_opn u1) (xu_bse u1 0) (xu_bva u1 0) (xu_bki u1 0) u1).bind _) ((fX3_put mN K (mu_ese v1 0) (mu_eva v1 0) (mu_eso v1 0) v1).bind _)
    rw [x1, x2, x3, y1, y2, y3, a3.1.2.1, ho]
    show StoreP nb sp (c + 11) fus ent ese eva eso ((fX1_program (xN nb) K (nI b) (nI (ese 0)) (eva 0) (eso 0) u1).bind _) _
    by_cases hf : s10 = 1
    · obtain ⟨u2, e1, hX2⟩ := X_prog1 (K := K) a3 a5 hb hp (nI (ese 0)) (eva 0) (eso 0) hf
      obtain ⟨v2, e2, hM2⟩ := M_put1 hK a4 a5 ho hp (nI (ese 0)) (eva 0) (eso 0) hf
      rw [e1, e2, bsome, bsome]
      exact ⟨false, u2, v2, s1, s2, s3, s4, s5, s6, s7, s8, o', s9, 0, rfl, rfl, Wf_mono a5 (by omega) hc9, by omega, a7, (fun h => by cases h), fun _ => ⟨hX2, hM2, rfl, Or.inl ⟨z, hz, hz0⟩⟩⟩
    · obtain ⟨u2, e1, hX2⟩ := X_prog2 (K := K) a3 a5 hb hp hs (eva 0) (eso 0) hf (by omega)
      obtain ⟨v2, e2, hM2⟩ := M_put2 hK a4 a5 (s := ese 0) ho hp (eva 0) (eso 0) hf (by omega)
      have hW2 := Wf_prog a5 (by omega) (k := eso 0) hb hp hs hk
      obtain ⟨u3, e3, hX3⟩ := X_drop hK hX2 h1 hB.1
      obtain ⟨v3, e4, hM3⟩ := M_st_loop (K := K) hB.1 h1 (ent - 1) K 0 (mu_s_ent v2 (nI (ent - 1))) (by omega) (by omega) ⟨⟨hM2.1.1, hM2.1.2.1, hM2.1.2.2.1, hM2.1.2.2.2.1, hM2.1.2.2.2.2.1, hM2.1.2.2.2.2.2.1, rfl⟩, hM2.2.1, hM2.2.2.1, fun k hk => by omega, fun k _ hk => hM2.2.2.2 k hk⟩
      rw [e1, e2, bsome, bsome]
      refine ⟨true, u3, v3, _, _, _, _, _, upN s6 b (s6 b + 1), _, _, o', _, _, ?_, ?_, Wf_mono hW2 (by omega) hc9, by omega, fun b' hb' h1 h2 => ?_, fun _ => ⟨hX3, hM3, fun b' hb' => ?_, ⟨z, hz, by rw [upN_n hzb]; exact hz0⟩⟩, (fun h => by cases h)⟩
      · show (if nI 1 = 0 then _ else (fX0_dropFirst (xN nb) K u2).bind _) = _
        rw [if_neg (by decide), e3, bsome]
        rfl
      · show (if zI 1 = 0 then _ else fX3_store_46 mN K K (nI 0) (mu_s_ent v2 (mu_ent v2 - zI 1))) = _
        rw [if_neg (by decide), hM2.1.2.2.2.2.2.2, zn1, pk_sub h1]
        exact e4
      · by_cases e : b' = b
        · rw [e]; exact ho
        · rw [upN_n e] at h1 h2
          exact a7 b' hb' h1 h2
      · have : b' = b := Option.some.inj (hb'.symm.trans ho)
        rw [this, upN_s]; omega
end
