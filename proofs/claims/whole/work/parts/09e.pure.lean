def RoomP (nb sp c' fus ent : Nat) (ese : Nat → Nat) (eva eso : Nat → Int32) (F : Option (Int32 × XU)) (G : Option (Int32 × MU)) : Prop :=
  ∃ (res : Bool) (u' : XU) (v' : MU) (sec' : Nat → Option Nat) (val' : Nat → Int32) (ser' : Nat → Nat) (kin' : Nat → Int32) (era' prg' : Nat → Nat) (new' : Nat → Option Nat) (nxt' : Nat) (opn' : Option Nat) (ops' : Int32) (fus' : Nat),
    F = some (zb res, u') ∧ G = some (zb res, v') ∧ RXP nb sp sec' val' ser' kin' era' prg' new' nxt' opn' ops' fus' ent ese eva eso u' ∧ RMP nb sp sec' val' ser' kin' era' prg' new' nxt' opn' ops' fus' ent ese eva eso v' ∧ WfP nb c' sec' ser' kin' era' prg' new' nxt' opn' ∧ fus' ≤ fus ∧ ptl nb prg' opn' ∧
    (res = true → ∃ b z, opn' = some b ∧ prg' b < 4 ∧ z < nb ∧ prg' z = 0 ∧ z ≠ b) ∧ (res = false → fus' = 0 ∧ CutOK nb sec' prg' new' opn')
theorem RoomP.mono {nb sp c c' fus fus0 ent : Nat} {ese : Nat → Nat} {eva eso : Nat → Int32} {F : Option (Int32 × XU)} {G : Option (Int32 × MU)} (h : RoomP nb sp c fus ent ese eva eso F G) (hc : c ≤ c') (h9 : c' ≤ 90000) (hf : fus ≤ fus0) : RoomP nb sp c' fus0 ent ese eva eso F G := by
  obtain ⟨res, u', v', s1, s2, s3, s4, s5, s6, s7, s8, s9, s10, s11, a1, a2, a3, a4, a5, a6, a7, a8, a9⟩ := h
  exact ⟨res, u', v', s1, s2, s3, s4, s5, s6, s7, s8, s9, s10, s11, a1, a2, a3, a4, Wf_mono a5 hc h9, Nat.le_trans a6 hf, a7, a8, a9⟩
section
variable {nb sp c K : Nat} {sec : Nat → Option Nat} {val : Nat → Int32} {ser : Nat → Nat} {kin : Nat → Int32} {era prg : Nat → Nat} {new : Nat → Option Nat} {nxt : Nat} {opn : Option Nat} {ops : Int32} {fus ent : Nat} {ese : Nat → Nat} {eva eso : Nat → Int32} {u : XU} {v : MU}
theorem RX_opn (hX : RXP nb sp sec val ser kin era prg new nxt opn ops fus ent ese eva eso u) (o : Option Nat) : RXP nb sp sec val ser kin era prg new nxt o ops fus ent ese eva eso (xu_s_opn u (cO o)) := by
  obtain ⟨⟨h1, h2, h3, h4, h5, h6, h7⟩, hp, hb, hn, he⟩ := hX
  exact ⟨⟨h1, rfl, h3, h4, h5, h6, h7⟩, hp, hb, hn, he⟩
theorem RM_opn (hM : RMP nb sp sec val ser kin era prg new nxt opn ops fus ent ese eva eso v) (o : Option Nat) : RMP nb sp sec val ser kin era prg new nxt o ops fus ent ese eva eso (mu_s_opn v (cO o)) := by
  obtain ⟨⟨h1, h2, h3, h4, h5, h6, h7⟩, hp, hb, he⟩ := hM
  exact ⟨⟨h1, rfl, h3, h4, h5, h6, h7⟩, hp, hb, he⟩
theorem Wf_opn (hW : WfP nb c sec ser kin era prg new nxt opn) (o : Option Nat) (ho : ∀ b, o = some b → b < nb) : WfP nb c sec ser kin era prg new nxt o := ⟨hW.1, hW.2.1, hW.2.2.1, hW.2.2.2.1, hW.2.2.2.2.1, hW.2.2.2.2.2.1, ho⟩
theorem no_part (hW : WfP nb c sec ser kin era prg new nxt opn) (hpt : ptl nb prg opn) (hno : opn = none ∨ ∃ b, opn = some b ∧ prg b = 4) : ∀ b, b < nb → prg b = 0 ∨ prg b = 4 := fun b hb => by
  have h4 := (hW.2.2.1 b hb).1
  by_cases h0 : prg b = 0
  · exact Or.inl h0
  · by_cases h : prg b < 4
    · have := hpt b hb (by omega) h
      rcases hno with e | ⟨b', e, h'⟩
      · rw [e] at this; cases this
      · rw [e] at this
        have := Option.some.inj this
        subst this
        omega
    · exact Or.inr (by omega)
theorem mk_A (hK : 60 < K) (hX : RXP nb sp sec val ser kin era prg new nxt opn ops fus ent ese eva eso u) (hM : RMP nb sp sec val ser kin era prg new nxt opn ops fus ent ese eva eso v) (hW : WfP nb c sec ser kin era prg new nxt opn) (hpt : ptl nb prg opn) (hno : opn = none ∨ ∃ b, opn = some b ∧ prg b = 4) (h2 : 2 ≤ cntB (isZ prg) 0 nb) {N M k : Nat} {x1 : Int32} (hk : k < 50) : RoomP nb sp c fus ent ese eva eso (xBody nb K (N + 1) x1 (nI k) u) (mBody K (M + 1) x1 (nI k) v) := by
  have h12 := hW.1.2.1
  have h04 := no_part hW hpt hno
  have hcl := cntB_le (isZ prg) nb 0
  obtain ⟨z0, -, hz0, hzz, -⟩ := cntB_two (isZ prg) nb 0 h2 0
  obtain ⟨z, hz, hzn, hzF, -⟩ := amin_ex (ok := isZ prg) (cost := era) (show z0 < nb by omega) hzz
  have hzp : prg z = 0 := by simpa [isZ] using hzF
  obtain ⟨z2, -, hz2, hz2z, hz2n⟩ := cntB_two (isZ prg) nb 0 h2 z
  have hW' := Wf_opn hW (some z) (fun b e => by cases e; exact hzn)
  have hX' := RX_opn hX (some z)
  have hM' := RM_opn hM (some z)
  refine ⟨true, xu_s_opn u (cO (some z)), mu_s_opn v (cO (some z)), sec, val, ser, kin, era, prg, new, nxt, some z, ops, fus, ?_, ?_, hX', hM', hW', Nat.le_refl _, fun b hb h1 h2 => ?_, fun _ => ⟨z, z2, rfl, by omega, by omega, by simpa [isZ] using hz2z, hz2n⟩, (fun h => by cases h)⟩
  · unfold xBody
    rw [X_countFree hK hX hW, bsome]
    show (if zI 2 ≤ nI _ then _ else _) = _
    rw [if_pos (by rw [zn2]; exact nI_le h2 (by omega)), X_leastWornFree hK hX hW, bsome, hz]
    show fX2_makeRoom_4 (xN nb) K (N + 1) x1 (nI k + zI 1) (xu_s_opn u (cO (some z))) = _
    rw [zn1, nI_add]
    exact X_isRoom hX' hW' rfl (by omega) (by omega)
  · unfold mBody
    rw [M_freeBlocks hK hM.1.2.2.1 (fun p hp => (hM.2.1 p hp).1) hW, bsome]
    show (if zI 2 ≤ nI _ then _ else _) = _
    rw [if_pos (by rw [zn2]; exact nI_le h2 (by omega)), M_free0 hK hM.1.2.2.1 (fun p hp => (hM.2.1 p hp).1) (fun p s hp hs => ((hM.2.1 p hp).2 s hs).2.1) hM.2.2.1 hW, bsome, hz]
    show fX3_room_4 mN K (M + 1) x1 (nI k + zI 1) (mu_s_opn v (cO (some z))) = _
    rw [zn1, nI_add]
    exact M_isRoom hK hM' hW' rfl (by omega) (by omega)
  · have := h04 b hb; omega
def xB2 (nb K N : Nat) (x1 k : Int32) (u : XU) : Option (Int32 × XU) := if x1 = 0 then ((fX1_wearGap (xN nb) K u).bind fun z21 => (if z21.1 ≤ (xu_spr z21.2) then (xCol nb K N (zI 0) (zI 0) k z21.2) else (xCol nb K N (zI 1) (zI 1) k z21.2))) else (xCol nb K N (zI 0) (zI 1) k u)
def mB2 (K N : Nat) (x1 k : Int32) (v : MU) : Option (Int32 × MU) := if x1 = 0 then ((fX3_uneven mN K v).bind fun z20 => (if z20.1 = 0 then (mCol K N (zI 1) (zI 0) k z20.2) else (mCol K N (zI 0) (zI 1) k z20.2))) else (mCol K N (zI 1) (zI 1) k v)
theorem mk_B (hK : 60 < K) (hX : RXP nb sp sec val ser kin era prg new nxt opn ops fus ent ese eva eso u) (hM : RMP nb sp sec val ser kin era prg new nxt opn ops fus ent ese eva eso v) (hW : WfP nb c sec ser kin era prg new nxt opn) (hpt : ptl nb prg opn) (hno : opn = none ∨ ∃ b, opn = some b ∧ prg b = 4) (h2 : ¬ 2 ≤ cntB (isZ prg) 0 nb) (hfr : ∃ z, z < nb ∧ prg z = 0) {N M k : Nat} {x1 : Int32} : ∃ z, z < nb ∧ prg z = 0 ∧ (∀ i, i < nb → i ≠ z → prg i = 4) ∧ xBody nb K N x1 (nI k) u = xB2 nb K N x1 (nI (k + 1)) (xu_s_opn u (cO (some z))) ∧ mBody K M x1 (nI k) v = mB2 K M x1 (nI (k + 1)) (mu_s_opn v (cO (some z))) := by
  have h12 := hW.1.2.1
  have h04 := no_part hW hpt hno
  obtain ⟨z0, hz0, hzz⟩ := hfr
  obtain ⟨z, hz, hzn, hzF, -⟩ := amin_ex (ok := isZ prg) (cost := era) hz0 (by simp [isZ, hzz])
  have hzp : prg z = 0 := by simpa [isZ] using hzF
  refine ⟨z, hzn, hzp, fun i hi hiz => ?_, ?_, ?_⟩
  · rcases h04 i hi with h | h
    · exact absurd (cntB_one (isZ prg) nb 0 i z (by omega) (by omega) (by omega) (by omega) (by omega) (by simp [isZ, h]) hzF) hiz
    · exact h
  · unfold xBody
    rw [X_countFree hK hX hW, bsome]
    show (if zI 2 ≤ nI _ then _ else _) = _
    rw [if_neg (by rw [zn2]; exact nI_ge (by omega) (by omega)), X_leastWornFree hK hX hW, bsome, hz, zn1, nI_add]
    rfl
  · unfold mBody
    rw [M_freeBlocks hK hM.1.2.2.1 (fun p hp => (hM.2.1 p hp).1) hW, bsome]
    show (if zI 2 ≤ nI _ then _ else _) = _
    rw [if_neg (by rw [zn2]; exact nI_ge (by omega) (by omega)), M_free0 hK hM.1.2.2.1 (fun p hp => (hM.2.1 p hp).1) (fun p s hp hs => ((hM.2.1 p hp).2 s hs).2.1) hM.2.2.1 hW, bsome, hz, zn1, nI_add]
    rfl
/-- a victim is collected and there is room, or the fuse ended it -/
theorem mk_col (hK : 60 < K) (hX : RXP nb sp sec val ser kin era prg new nxt opn ops fus ent ese eva eso u) (hM : RMP nb sp sec val ser kin era prg new nxt opn ops fus ent ese eva eso v) (hW : WfP nb c sec ser kin era prg new nxt opn) (hc9 : c + 5 ≤ 90000) (hf2 : fus ≤ 1000) {z : Nat} (ho : opn = some z) (hz0 : prg z = 0) (hfull : ∀ i, i < nb → i ≠ z → prg i = 4) (N M : Nat) (ev : Int32) {k : Nat} (hk : k < 60) : RoomP nb sp (c + 5) fus ent ese eva eso (xCol nb K (N + 1) (zI 0) ev (nI k) u) (mCol K (M + 1) (zI 1) ev (nI k) v) := by
  obtain ⟨w, res, u', v', s1, s2, s3, s4, s5, s6, s7, s8, s9, s10, a3, a4, a5, a6, hw, hwz, a7, a8, a9⟩ := col_step hK hX hM hW hc9 hf2 ho hz0 hfull false (N + 1) (M + 1) ev (nI k)
  cases res with
  | true =>
    obtain ⟨b1, b2, b3, b4, b5⟩ := a8 rfl
    have b5 := b5 rfl
    refine ⟨true, u', v', s1, s2, s3, s4, s5, s6, s7, s8, opn, s9, s10, ?_, ?_, a3, a4, a5, a6, fun b hb h1 h2 => ?_, fun _ => ⟨z, w, ho, by omega, hw, b3, hwz⟩, (fun h => by cases h)⟩
    · exact b1.trans (X_isRoom a3 a5 ho (by omega) (by omega))
    · exact b2.trans (M_isRoom hK a4 a5 ho (by omega) (by omega))
    · by_cases e1 : b = z
      · rw [e1]; exact ho
      · by_cases e2 : b = w
        · rw [e2] at h1; omega
        · have := a7 b hb e1 e2; omega
  | false =>
    obtain ⟨b1, b2, b3, b4, b5⟩ := a9 rfl
    refine ⟨false, u', v', s1, s2, s3, s4, s5, s6, s7, s8, opn, s9, s10, b1, b2, a3, a4, a5, a6, fun b hb h1 h2 => ?_, (fun h => by cases h), fun _ => ⟨b3, Or.inr ⟨z, w, ho, hw, hwz, b4, b5⟩⟩⟩
    by_cases e1 : b = z
    · rw [e1]; exact ho
    · by_cases e2 : b = w
      · rw [e2] at h2; omega
      · have := a7 b hb e1 e2; omega
theorem mk_ev1 (hK : 60 < K) (hX : RXP nb sp sec val ser kin era prg new nxt opn ops fus ent ese eva eso u) (hM : RMP nb sp sec val ser kin era prg new nxt opn ops fus ent ese eva eso v) (hW : WfP nb c sec ser kin era prg new nxt opn) (hc9 : c + 5 ≤ 90000) (hf2 : fus ≤ 1000) (hpt : ptl nb prg opn) (hno : opn = none ∨ ∃ b, opn = some b ∧ prg b = 4) (hfr : ∃ z, z < nb ∧ prg z = 0) (N M : Nat) {k : Nat} (hk : k < 50) : RoomP nb sp (c + 5) fus ent ese eva eso (fX2_makeRoom_4 (xN nb) K (N + 2) (zI 1) (nI k) u) (fX3_room_4 mN K (M + 2) (zI 1) (nI k) v) := by
  rw [X_noRoom hX hW hno (by omega), M_noRoom hK hM hW hno (by omega)]
  by_cases h2 : 2 ≤ cntB (isZ prg) 0 nb
  · exact (mk_A hK hX hM hW hpt hno h2 hk).mono (by omega) hc9 (Nat.le_refl _)
  · obtain ⟨z, hz, hz0, hfull, e1, e2⟩ := mk_B hK hX hM hW hpt hno h2 hfr (N := N + 1) (M := M + 1) (k := k) (x1 := zI 1)
    rw [e1, e2]
    unfold xB2 mB2
    rw [if_neg (by decide), if_neg (by decide)]
    exact mk_col hK (RX_opn hX (some z)) (RM_opn hM (some z)) (Wf_opn hW (some z) (fun b e => by cases e; exact hz)) hc9 hf2 rfl hz0 hfull N M (zI 1) (by omega)
theorem mk_ev0 (hK : 60 < K) (hX : RXP nb sp sec val ser kin era prg new nxt opn ops fus ent ese eva eso u) (hM : RMP nb sp sec val ser kin era prg new nxt opn ops fus ent ese eva eso v) (hW : WfP nb c sec ser kin era prg new nxt opn) (hc9 : c + 10 ≤ 90000) (hf2 : fus ≤ 1000) (hpt : ptl nb prg opn) (hno : opn = none ∨ ∃ b, opn = some b ∧ prg b = 4) (hfr : ∃ z, z < nb ∧ prg z = 0) (N M : Nat) {k : Nat} (hk : k < 40) : RoomP nb sp (c + 10) fus ent ese eva eso (fX2_makeRoom_4 (xN nb) K (N + 3) (zI 0) (nI k) u) (fX3_room_4 mN K (M + 3) (zI 0) (nI k) v) := by
  rw [X_noRoom hX hW hno (by omega), M_noRoom hK hM hW hno (by omega)]
  by_cases h2 : 2 ≤ cntB (isZ prg) 0 nb
  · exact (mk_A hK hX hM hW hpt hno h2 (by omega)).mono (by omega) hc9 (Nat.le_refl _)
  · obtain ⟨z, hz, hz0, hfull, e1, e2⟩ := mk_B hK hX hM hW hpt hno h2 hfr (N := N + 2) (M := M + 2) (k := k) (x1 := zI 0)
    rw [e1, e2]
    have hX' := RX_opn hX (some z)
    have hM' := RM_opn hM (some z)
    have hW' := Wf_opn hW (some z) (fun b e => by cases e; exact hz)
    obtain ⟨x, g1, g2⟩ := gap_both hK hX' hM' hW'
    unfold xB2 mB2
    rw [if_pos (show zI 0 = 0 from by decide), if_pos (show zI 0 = 0 from by decide), g1, g2, bsome, bsome]
    show RoomP nb sp (c + 10) fus ent ese eva eso (if x ≤ xu_spr (xu_s_opn u (cO (some z))) then _ else _) (if zb (decide (¬ x ≤ nI sp)) = 0 then _ else _)
    rw [hX'.1.1]
    by_cases hx : x ≤ nI sp
    · rw [if_pos hx, if_pos (by rw [zb_0]; exact decide_eq_false (fun h => h hx))]
      exact (mk_col hK hX' hM' hW' (by omega) hf2 rfl hz0 hfull (N + 1) (M + 1) (zI 0) (by omega)).mono (by omega) hc9 (Nat.le_refl _)
    · rw [if_neg hx, if_neg (by rw [zb_0, decide_eq_true hx]; decide)]
      obtain ⟨w, res, u', v', s1, s2, s3, s4, s5, s6, s7, s8, s9, s10, a3, a4, a5, a6, hw, hwz, a7, a8, a9⟩ := col_step hK hX' hM' hW' (by omega) hf2 rfl hz0 hfull true (N + 2) (M + 2) (zI 1) (nI (k + 1))
      cases res with
      | true =>
        obtain ⟨b1, b2, b3, b4, b5⟩ := a8 rfl
        have hpt' : ptl nb s6 (some z) := fun b hb h1 h2 => by
          by_cases e1 : b = z
          · rw [e1]
          · by_cases e2 : b = w
            · rw [e2] at h1; omega
            · have := a7 b hb e1 e2; omega
        have q1 : xCol nb K (N + 2) (zI 1) (zI 1) (nI (k + 1)) (xu_s_opn u (cO (some z))) = fX2_makeRoom_4 (xN nb) K (N + 2) (zI 1) (nI (k + 1)) u' := b1
        have q2 : mCol K (M + 2) (zI 0) (zI 1) (nI (k + 1)) (mu_s_opn v (cO (some z))) = fX3_room_4 mN K (M + 2) (zI 1) (nI (k + 1)) v' := b2
        rw [q1, q2]
        by_cases h4 : s6 z = 4
        · exact (mk_ev1 hK a3 a4 a5 (by omega) (by omega) hpt' (Or.inr ⟨z, rfl, h4⟩) ⟨w, hw, b3⟩ N M (by omega)).mono (by omega) hc9 a6
        · refine ⟨true, u', v', s1, s2, s3, s4, s5, s6, s7, s8, some z, s9, s10, ?_, ?_, a3, a4, Wf_mono a5 (by omega) hc9, a6, hpt', fun _ => ⟨z, w, rfl, by omega, hw, b3, hwz⟩, (fun h => by cases h)⟩
          · exact X_isRoom a3 a5 rfl (by omega) (by omega)
          · exact M_isRoom hK a4 a5 rfl (by omega) (by omega)
      | false =>
        obtain ⟨b1, b2, b3, b4, b5⟩ := a9 rfl
        refine ⟨false, u', v', s1, s2, s3, s4, s5, s6, s7, s8, some z, s9, s10, b1, b2, a3, a4, Wf_mono a5 (by omega) hc9, a6, fun b hb h1 h2 => ?_, (fun h => by cases h), fun _ => ⟨b3, Or.inr ⟨z, w, rfl, hw, hwz, b4, b5⟩⟩⟩
        by_cases e1 : b = z
        · rw [e1]
        · by_cases e2 : b = w
          · rw [e2] at h2; omega
          · have := a7 b hb e1 e2; omega
/-- class and reference make room alike -/
theorem room_both (hK : 60 < K) (hX : RXP nb sp sec val ser kin era prg new nxt opn ops fus ent ese eva eso u) (hM : RMP nb sp sec val ser kin era prg new nxt opn ops fus ent ese eva eso v) (hW : WfP nb c sec ser kin era prg new nxt opn) (hc9 : c + 10 ≤ 90000) (hf2 : fus ≤ 1000) (hpt : ptl nb prg opn) (hop : ∀ b, opn = some b → 0 < prg b) (hfr : ∃ z, z < nb ∧ prg z = 0) : RoomP nb sp (c + 10) fus ent ese eva eso (fX2_makeRoom (xN nb) K u) (fX3_room mN K v) := by
  obtain ⟨N, rfl⟩ : ∃ N, K = N + 3 := ⟨K - 3, by omega⟩
  unfold fX2_makeRoom fX3_room
  by_cases hr : ∃ b, opn = some b ∧ prg b < 4
  · obtain ⟨b, ho, hp⟩ := hr
    obtain ⟨z, hz, hz0⟩ := hfr
    refine ⟨true, u, v, sec, val, ser, kin, era, prg, new, nxt, opn, ops, fus, ?_, ?_, hX, hM, Wf_mono hW (by omega) hc9, Nat.le_refl _, hpt, fun _ => ⟨b, z, ho, hp, hz, hz0, fun e => by have := hop b ho; rw [e] at hz0; omega⟩, (fun h => by cases h)⟩
    · rw [show zI 0 = nI 0 from zn0]; exact X_isRoom (N := N + 2) hX hW ho hp (by omega)
    · rw [show zI 0 = nI 0 from zn0]; exact M_isRoom (N := N + 2) hK hM hW ho hp (by omega)
  · have hno : opn = none ∨ ∃ b, opn = some b ∧ prg b = 4 := by
      cases ho : opn with
      | none => exact Or.inl rfl
      | some b =>
        have h4 := (hW.2.2.1 b (hW.2.2.2.2.2.2 b ho)).1
        have : ¬ prg b < 4 := fun h => hr ⟨b, ho, h⟩
        exact Or.inr ⟨b, rfl, by omega⟩
    exact mk_ev0 hK hX hM hW hc9 hf2 hpt hno hfr N N (k := 0) (by omega)
end
