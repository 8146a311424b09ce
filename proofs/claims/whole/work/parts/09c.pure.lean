/-! ===== collecting a block ===== -/
def ColP (nb sp c' w m : Nat) (prg : Nat → Nat) (opn : Option Nat) (fus ent : Nat) (ese : Nat → Nat) (eva eso : Nat → Int32) (F : Option (Int32 × XU)) (G : Option (Int32 × MU)) : Prop :=
  ∃ (res : Bool) (u' : XU) (v' : MU) (sec' : Nat → Option Nat) (val' : Nat → Int32) (ser' : Nat → Nat) (kin' : Nat → Int32) (era' prg' : Nat → Nat) (new' : Nat → Option Nat) (nxt' : Nat) (ops' : Int32) (fus' : Nat),
    F = some (zb res, u') ∧ G = some (zb res, v') ∧ RXP nb sp sec' val' ser' kin' era' prg' new' nxt' opn ops' fus' ent ese eva eso u' ∧ RMP nb sp sec' val' ser' kin' era' prg' new' nxt' opn ops' fus' ent ese eva eso v' ∧ WfP nb c' sec' ser' kin' era' prg' new' nxt' opn ∧ fus' ≤ fus ∧
    (∀ i, opn ≠ some i → i ≠ w → prg' i = prg i) ∧
    (res = true → prg' w = 0 ∧ ∀ b, opn = some b → prg' b = prg b + m) ∧
    (res = false → fus' = 0 ∧ fus ≠ 0 ∧ prg' w = prg w ∧ ∀ b, opn = some b → prg b ≤ prg' b ∧ prg' b + vc sec' new' w ≤ prg b + m)
section
variable {nb sp c K : Nat} {sec : Nat → Option Nat} {val : Nat → Int32} {ser : Nat → Nat} {kin : Nat → Int32} {era prg : Nat → Nat} {new : Nat → Option Nat} {nxt : Nat} {opn : Option Nat} {ops : Int32} {fus ent : Nat} {ese : Nat → Nat} {eva eso : Nat → Int32} {u : XU} {v : MU}
theorem Wf_mono {c' : Nat} (hW : WfP nb c sec ser kin era prg new nxt opn) (h : c ≤ c') (h9 : c' ≤ 90000) : WfP nb c' sec ser kin era prg new nxt opn := by
  obtain ⟨⟨h5, h12, hc⟩, ⟨hnx, her⟩, hpg, hs4, hds, hnw, ho⟩ := hW
  exact ⟨⟨h5, h12, h9⟩, ⟨by omega, fun b hb => by have := her b hb; omega⟩, hpg, hs4, hds, hnw, ho⟩
theorem vc_all0 {w : Nat} (h : ∀ i, i < 4 → vld sec new (4 * w + i) = false) : vc sec new w = 0 := cntB_zero 4 (4 * w) (fun i h1 h2 => by
  have := h (i - 4 * w) (by omega)
  rwa [show 4 * w + (i - 4 * w) = i from by omega] at this)
theorem vc_from {w q r : Nat} (hq : q + r = 4) (h : ∀ i, i < q → vld sec new (4 * w + i) = false) : vc sec new w = cntB (vld sec new) (4 * w + q) r := by
  unfold vc
  have hsp := cntB_split (f := vld sec new) q r (4 * w)
  rw [hq] at hsp
  rw [hsp, cntB_zero q (4 * w) (fun i h1 h2 => by
    have := h (i - 4 * w) (by omega)
    rwa [show 4 * w + (i - 4 * w) = i from by omega] at this), Nat.zero_add]
end
theorem col_loop {nb sp K w : Nat} (hK : 60 < K) (hw : w < nb) : ∀ (r N q c : Nat) (sec : Nat → Option Nat) (val : Nat → Int32) (ser : Nat → Nat) (kin : Nat → Int32) (era prg : Nat → Nat) (new : Nat → Option Nat) (nxt : Nat) (opn : Option Nat) (ops : Int32) (fus ent : Nat) (ese : Nat → Nat) (eva eso : Nat → Int32) (u : XU) (v : MU), q + r = 4 → r < N → RXP nb sp sec val ser kin era prg new nxt opn ops fus ent ese eva eso u → RMP nb sp sec val ser kin era prg new nxt opn ops fus ent ese eva eso v → WfP nb c sec ser kin era prg new nxt opn → c + r + 1 ≤ 90000 → fus ≤ 1000 → opn ≠ some w → (∀ i, i < q → vld sec new (4 * w + i) = false) → (cntB (vld sec new) (4 * w + q) r = 0 ∨ ∃ b, opn = some b ∧ prg b + cntB (vld sec new) (4 * w + q) r ≤ 4) → ColP nb sp (c + r + 1) w (cntB (vld sec new) (4 * w + q) r) prg opn fus ent ese eva eso (fX2_collect_13 (xN nb) K N (nI w) (nI (4 * w)) (nI (4 * w + q)) u) (fX3_collect_4 mN K N (nI w) (nI (4 * w + q)) v) := by
  intro r
  induction r with
  | zero =>
    intro N q c sec val ser kin era prg new nxt opn ops fus ent ese eva eso u v hq hN hX hM hW hc9 hf2 how hinv hroom
    obtain ⟨N', rfl⟩ : ∃ N', N = N' + 1 := ⟨N - 1, by omega⟩
    have h12 := hW.1.2.1
    have eq4 : q = 4 := by omega
    subst eq4
    rw [fX2_collect_13, zn4, nI_add, if_pos (nI_le (Nat.le_refl _) (by omega)), fX3_collect_4, zn4, nI_page4, if_pos (nI_le (Nat.le_refl _) (by omega))]
    by_cases hf : fus = 1
    · obtain ⟨u1, e1, hX1⟩ := X_erase1 (K := K) hX (nI w) hf
      obtain ⟨v1, e2, hM1⟩ := M_op1 (K := K) hM hf
      refine ⟨false, u1, v1, sec, val, ser, kin, era, prg, new, nxt, ops, 0, ?_, ?_, hX1, hM1, Wf_mono hW (by omega) hc9, by omega, fun i _ _ => rfl, (fun h => by cases h), fun _ => ⟨rfl, by omega, rfl, fun b _ => ⟨Nat.le_refl _, ?_⟩⟩⟩
      · rw [e1, bsome]; exact vb_0
      · rw [e2, bsome]; rfl
      · rw [vc_all0 hinv]; exact Nat.le_refl _
    · obtain ⟨u1, e1, hX1⟩ := X_erase2 hK hX hW hw hf hf2
      obtain ⟨v1, e2, hM1⟩ := M_op2 (K := K) hM hf hf2
      obtain ⟨v2, e3, hM2⟩ := M_er_loop (K := K) hM1 hW hw 4 K 0 v1 (by omega) (by omega) ⟨fun p hp => ⟨by rw [if_neg (by omega)]; exact (hM1.2.1 p hp).1, (hM1.2.1 p hp).2⟩, hM1.1, hM1.2.2.1, hM1.2.2.2⟩
      refine ⟨true, u1, v2, erN sec w, val, ser, kin, upN era w (era w + 1), upN prg w 0, new, nxt, ops + zI 1, fus - 1, ?_, ?_, hX1, hM2, Wf_erase hW (by omega) hw hinv, by omega, fun i _ hi => upN_n hi, fun _ => ⟨upN_s, fun b hb => ?_⟩, (fun h => by cases h)⟩
      · rw [e1, bsome]; exact vb_1
      · rw [e2, bsome]
        show (if zI 1 = 0 then _ else _) = _
        rw [if_neg (by decide), pk_mul]
        exact e3
      · rw [upN_n (fun e => how (by rw [hb, e]))]; rfl
  | succ r ih =>
    intro N q c sec val ser kin era prg new nxt opn ops fus ent ese eva eso u v hq hN hX hM hW hc9 hf2 how hinv hroom
    obtain ⟨N', rfl⟩ : ∃ N', N = N' + 1 := ⟨N - 1, by omega⟩
    have h12 := hW.1.2.1
    have hpl : 4 * w + q < 4 * nb := by omega
    rw [fX2_collect_13, if_neg (show ¬ nI (4 * w) + zI 4 ≤ nI (4 * w + q) from by rw [zn4, nI_add]; exact nI_ge (by omega) (by omega)), X_isValid hX hW hpl, bsome, fX3_collect_4, if_neg (show ¬ zI 4 * nI w + zI 4 ≤ nI (4 * w + q) from by rw [zn4, nI_page4]; exact nI_ge (by omega) (by omega)), M_isValid hK hM.1.2.2.1 (fun p hp => (hM.2.1 p hp).1) (fun p s hp hs => ((hM.2.1 p hp).2 s hs).2.1) hW hpl, bsome, zn1, nI_add]
    dsimp only
    cases hv : vld sec new (4 * w + q) with
    | false =>
      have hcnt : cntB (vld sec new) (4 * w + q) (r + 1) = cntB (vld sec new) (4 * w + (q + 1)) r := by
        rw [cntB, if_neg (by rw [hv]; decide), Nat.zero_add]; rfl
      rw [hcnt] at hroom ⊢
      rw [if_pos (show zb false = 0 from by decide), if_pos (show zb false = 0 from by decide)]
      obtain ⟨res, u', v', s1, s2, s3, s4, s5, s6, s7, s8, s9, s10, a1, a2, a3, a4, a5, a6, a7, a8, a9⟩ := ih N' (q + 1) c sec val ser kin era prg new nxt opn ops fus ent ese eva eso u v (by omega) (by omega) hX hM hW (by omega) hf2 how (fun i hi => by
        by_cases e : i = q
        · rw [e]; exact hv
        · exact hinv i (by omega)) hroom
      exact ⟨res, u', v', s1, s2, s3, s4, s5, s6, s7, s8, s9, s10, a1, a2, a3, a4, Wf_mono a5 (by omega) hc9, a6, a7, a8, a9⟩
    | true =>
      have hcnt : cntB (vld sec new) (4 * w + q) (r + 1) = 1 + cntB (vld sec new) (4 * w + (q + 1)) r := by
        rw [cntB, if_pos hv]; rfl
      rw [hcnt] at hroom ⊢
      rw [if_neg (show ¬ zb true = 0 from by decide), if_neg (show ¬ zb true = 0 from by decide)]
      obtain ⟨b, hob, hbr⟩ : ∃ b, opn = some b ∧ prg b + (1 + cntB (vld sec new) (4 * w + (q + 1)) r) ≤ 4 := by
        rcases hroom with h | h
        · omega
        · exact h
      have hb := hW.2.2.2.2.2.2 b hob
      have hbw : b ≠ w := fun e => how (by rw [hob, e])
      obtain ⟨s, hs, hn⟩ := vld_some hv
      obtain ⟨sl, -, hk0⟩ := hW.2.2.2.1 _ s hpl hs
      obtain ⟨x1, x2, x3, x4⟩ := (hX.2.1 _ hpl).2 s hs
      have y0 := (hM.2.1 _ hpl).1
      obtain ⟨y1, y2, y3⟩ := (hM.2.1 _ hpl).2 s hs
      rw [hs] at y0
      rw [xN3, vg_in hpl (by omega), xN4, vg_in hpl (by omega), xN5, vg_in hpl (by omega), mN1, vg_in (by omega) (by omega), mN2, vg_in (by omega) (by omega), mN4, vg_in (by omega) (by omega), nI_clamp (by omega), x1, x2, x3, y0, y1, y3, hX.1.2.1, hob]
      have hob' := hob
      by_cases hf : fus = 1
      · obtain ⟨u1, e1, hX1⟩ := X_prog1 (K := K) hX hW hb (by omega) (nI s) (val (4 * w + q)) (kin (4 * w + q)) hf
        obtain ⟨v1, e2, hM1⟩ := M_put1 hK hM hW hob (by omega) (nI s) (val (4 * w + q)) (kin (4 * w + q)) hf
        refine ⟨false, u1, v1, sec, val, ser, kin, era, prg, new, nxt, ops, 0, ?_, ?_, hob ▸ hX1, hob ▸ hM1, hob ▸ Wf_mono hW (by omega) hc9, by omega, fun i _ _ => rfl, (fun h => by cases h), fun _ => ⟨rfl, by omega, rfl, fun b' hb' => ⟨Nat.le_refl _, ?_⟩⟩⟩
        · show (fX1_program (xN nb) K (nI b) (nI s) (val (4 * w + q)) (kin (4 * w + q)) u).bind _ = _
          rw [e1, bsome]; rfl
        · show (fX3_put mN K (nI s) (val (4 * w + q)) (kin (4 * w + q)) v).bind _ = _
          rw [e2, bsome]; rfl
        · rw [vc_from hq hinv, hcnt]; exact Nat.le_refl _
      · obtain ⟨u1, e1, hX1⟩ := X_prog2 (K := K) hX hW hb (by omega) sl (val (4 * w + q)) (kin (4 * w + q)) hf hf2
        obtain ⟨v1, e2, hM1⟩ := M_put2 hK hM hW (s := s) hob (by omega) (val (4 * w + q)) (kin (4 * w + q)) hf hf2
        have hW1 := Wf_prog hW (by omega) (k := kin (4 * w + q)) hb (by omega) sl hk0
        have hvp : ∀ i, i < 4 → vld (upN sec (4 * b + prg b) (some s)) (upN new s (some (4 * b + prg b))) (4 * w + i) = if 4 * w + i = 4 * w + q then false else vld sec new (4 * w + i) := fun i hi => vld_prog hW hb hw hbw (by omega) (by omega) (by omega) hs hn
        have hc1 : cntB (vld (upN sec (4 * b + prg b) (some s)) (upN new s (some (4 * b + prg b)))) (4 * w + (q + 1)) r = cntB (vld sec new) (4 * w + (q + 1)) r := cntB_congr r _ (fun i h1 h2 => by
          have := hvp (i - 4 * w) (by omega)
          rw [show 4 * w + (i - 4 * w) = i from by omega] at this
          rw [this, if_neg (by omega)])
        have ih := ih N' (q + 1) (c + 1) _ _ _ _ _ _ _ _ opn _ _ ent ese eva eso u1 v1 (by omega) (by omega) hX1 hM1 hW1 (by omega) (by omega) how (fun i hi => by
          rw [hvp i (by omega)]
          by_cases e : i = q
          · rw [if_pos (by rw [e])]
          · rw [if_neg (by omega)]; exact hinv i (by omega)) (Or.inr ⟨b, hob, by rw [hc1, upN_s]; omega⟩)
        rw [hc1] at ih
        obtain ⟨res, u', v', s1, s2, s3, s4, s5, s6, s7, s8, s9, s10, a1, a2, a3, a4, a5, a6, a7, a8, a9⟩ := ih
        refine ⟨res, u', v', s1, s2, s3, s4, s5, s6, s7, s8, s9, s10, ?_, ?_, hob ▸ a3, hob ▸ a4, hob ▸ Wf_mono a5 (by omega) hc9, by omega, fun i h1 h2 => ?_, fun h => ⟨(a8 h).1, fun b' hb' => ?_⟩, fun h => ⟨(a9 h).1, by have := (a9 h).2.1; omega, ?_, fun b' hb' => ?_⟩⟩
        · show (fX1_program (xN nb) K (nI b) (nI s) (val (4 * w + q)) (kin (4 * w + q)) u).bind _ = _
          rw [e1, bsome]
          show (if zI 1 = 0 then _ else _) = _
          rw [if_neg (by decide)]
          exact a1
        · show (fX3_put mN K (nI s) (val (4 * w + q)) (kin (4 * w + q)) v).bind _ = _
          rw [e2, bsome]
          show (if zI 1 = 0 then _ else _) = _
          rw [if_neg (by decide)]
          exact a2
        · rw [a7 i (by rw [hob]; exact h1) h2, upN_n (fun e => h1 (by rw [e]))]
        · have eb : b' = b := (Option.some.inj hb').symm
          have := (a8 h).2 b hob
          rw [upN_s] at this
          rw [eb, this]; omega
        · rw [(a9 h).2.2.1, upN_n (Ne.symm hbw)]
        · have eb : b' = b := (Option.some.inj hb').symm
          have := (a9 h).2.2.2 b hob
          rw [upN_s] at this
          rw [eb]; omega
section
variable {nb sp c K : Nat} {sec : Nat → Option Nat} {val : Nat → Int32} {ser : Nat → Nat} {kin : Nat → Int32} {era prg : Nat → Nat} {new : Nat → Option Nat} {nxt : Nat} {opn : Option Nat} {ops : Int32} {fus ent : Nat} {ese : Nat → Nat} {eva eso : Nat → Int32} {u : XU} {v : MU}
theorem collect_both (hK : 60 < K) (hX : RXP nb sp sec val ser kin era prg new nxt opn ops fus ent ese eva eso u) (hM : RMP nb sp sec val ser kin era prg new nxt opn ops fus ent ese eva eso v) (hW : WfP nb c sec ser kin era prg new nxt opn) (hc9 : c + 5 ≤ 90000) (hf2 : fus ≤ 1000) {w : Nat} (hw : w < nb) (how : opn ≠ some w) (hroom : vc sec new w = 0 ∨ ∃ b, opn = some b ∧ prg b + vc sec new w ≤ 4) : ColP nb sp (c + 5) w (vc sec new w) prg opn fus ent ese eva eso (fX2_collect (xN nb) K (nI w) u) (fX3_collect mN K (nI w) v) := by
  have h12 := hW.1.2.1
  unfold fX2_collect fX3_collect
  rw [if_neg (nI_nem (by omega)), zn4, pk_mul, pk_mul, Nat.mul_comm w 4]
  exact col_loop hK hw 4 K 0 c _ _ _ _ _ _ _ _ _ _ _ _ _ _ _ u v (by omega) (by omega) hX hM hW hc9 hf2 how (fun i hi => by omega) hroom
end
