/-! ===== making room ===== -/
theorem cntB_full {f : Nat → Bool} : ∀ r b, cntB f b r = r → ∀ i, b ≤ i → i < b + r → f i = true
  | 0, b, _, i, h1, h2 => by omega
  | r + 1, b, h, i, h1, h2 => by
    have hle := cntB_le f r (b + 1)
    unfold cntB at h
    by_cases hb : f b = true
    · rw [if_pos hb] at h
      by_cases e : i = b
      · rw [e]; exact hb
      · exact cntB_full r (b + 1) (by omega) i (by omega) (by omega)
    · rw [if_neg hb] at h; omega
def ptl (nb : Nat) (prg : Nat → Nat) (opn : Option Nat) : Prop := ∀ b, b < nb → 0 < prg b → prg b < 4 → opn = some b
def CutOK (nb : Nat) (sec : Nat → Option Nat) (prg : Nat → Nat) (new : Nat → Option Nat) (opn : Option Nat) : Prop := (∃ z, z < nb ∧ prg z = 0) ∨ ∃ b w, opn = some b ∧ w < nb ∧ w ≠ b ∧ prg w = 4 ∧ prg b + vc sec new w ≤ 4
def xCol (nb K N : Nat) (fw ev k : Int32) (u : XU) : Option (Int32 × XU) := (fX1_victim (xN nb) K fw u).bind fun z => ((fX2_collect (xN nb) K z.1 z.2).bind fun y => (if y.1 = 0 then (some (zI 0, y.2)) else (fX2_makeRoom_4 (xN nb) K N ev k y.2)))
def mCol (K N : Nat) (fv ev k : Int32) (v : MU) : Option (Int32 × MU) := (fX3_pick mN K (zI 4) fv v).bind fun z => ((fX3_collect mN K z.1 z.2).bind fun y => (if y.1 = 0 then (some (zI 0, y.2)) else (fX3_room_4 mN K N ev k y.2)))
def xBody (nb K N : Nat) (x1 x2 : Int32) (u : XU) : Option (Int32 × XU) := (fX1_countFree (xN nb) K u).bind fun z5 => (if (zI 2) ≤ z5.1 then ((fX1_leastWornFree (xN nb) K z5.2).bind fun z8 => (fX2_makeRoom_4 (xN nb) K N x1 (x2 + (zI 1)) (xu_s_opn z8.2 z8.1))) else ((fX1_leastWornFree (xN nb) K z5.2).bind fun z11 => (if x1 = 0 then ((fX1_wearGap (xN nb) K (xu_s_opn z11.2 z11.1)).bind fun z21 => (if z21.1 ≤ (xu_spr z21.2) then (xCol nb K N (zI 0) (zI 0) (x2 + (zI 1)) z21.2) else (xCol nb K N (zI 1) (zI 1) (x2 + (zI 1)) z21.2))) else (xCol nb K N (zI 0) (zI 1) (x2 + (zI 1)) (xu_s_opn z11.2 z11.1)))))
def mBody (K N : Nat) (x1 x2 : Int32) (v : MU) : Option (Int32 × MU) := (fX3_freeBlocks mN K v).bind fun z3 => (if (zI 2) ≤ z3.1 then ((fX3_pick mN K (zI 0) (zI 0) z3.2).bind fun z6 => (fX3_room_4 mN K N x1 (x2 + (zI 1)) (mu_s_opn z6.2 z6.1))) else ((fX3_pick mN K (zI 0) (zI 0) z3.2).bind fun z9 => (if x1 = 0 then ((fX3_uneven mN K (mu_s_opn z9.2 z9.1)).bind fun z20 => (if z20.1 = 0 then (mCol K N (zI 1) (zI 0) (x2 + (zI 1)) z20.2) else (mCol K N (zI 0) (zI 1) (x2 + (zI 1)) z20.2))) else (mCol K N (zI 1) (zI 1) (x2 + (zI 1)) (mu_s_opn z9.2 z9.1)))))
section
variable {nb sp c K : Nat} {sec : Nat → Option Nat} {val : Nat → Int32} {ser : Nat → Nat} {kin : Nat → Int32} {era prg : Nat → Nat} {new : Nat → Option Nat} {nxt : Nat} {opn : Option Nat} {ops : Int32} {fus ent : Nat} {ese : Nat → Nat} {eva eso : Nat → Int32} {u : XU} {v : MU}
/-- where all blocks but one are full, one of them has a page that isn't valid -/
theorem few_valid (hW : WfP nb c sec ser kin era prg new nxt opn) {z : Nat} (hz : z < nb) (hfull : ∀ i, i < nb → i ≠ z → prg i = 4) : ∃ w, w < nb ∧ w ≠ z ∧ vc sec new w ≤ 3 := by
  obtain ⟨⟨h5, h12, hc⟩, -, hpg, hs4, -, -, -⟩ := hW
  refine Classical.byContradiction fun hno => ?_
  have hall : ∀ w, w < nb → w ≠ z → ∀ p, 4 * w ≤ p → p < 4 * w + 4 → vld sec new p = true := fun w h1 h2 p h3 h4 => by
    have h6 : vc sec new w = 4 := by
      have := vc_le sec new w
      have : ¬ vc sec new w ≤ 3 := fun h => hno ⟨w, h1, h2, h⟩
      omega
    exact cntB_full 4 (4 * w) h6 p h3 h4
  have hpage : ∀ i, i < 4 * (nb - 1) → vld sec new (if i < 4 * z then i else i + 4) = true := fun i hi => by
    by_cases h : i < 4 * z
    · rw [if_pos h]
      exact hall (i / 4) (by omega) (by omega) i (by omega) (by omega)
    · rw [if_neg h]
      exact hall ((i + 4) / 4) (by omega) (by omega) (i + 4) (by omega) (by omega)
  have := php (4 * (nb - 3)) (4 * (nb - 1)) (fun i => (sec (if i < 4 * z then i else i + 4)).getD 0) (fun i hi => by
    obtain ⟨s, hs, hn⟩ := vld_some (hpage i hi)
    show (sec _).getD 0 < _
    rw [hs]
    exact (hs4 _ s (by split <;> omega) hs).1) (fun i j hi hj he => by
    obtain ⟨s, hs, hn⟩ := vld_some (hpage i hi)
    obtain ⟨s', hs', hn'⟩ := vld_some (hpage j hj)
    have he : (sec (if i < 4 * z then i else i + 4)).getD 0 = (sec (if j < 4 * z then j else j + 4)).getD 0 := he
    rw [hs, hs'] at he
    have he : s = s' := he
    subst he
    rw [hn] at hn'
    have := Option.some.inj hn'
    split at this <;> split at this <;> omega)
  omega
theorem X_noRoom (hX : RXP nb sp sec val ser kin era prg new nxt opn ops fus ent ese eva eso u) (hW : WfP nb c sec ser kin era prg new nxt opn) (hno : opn = none ∨ ∃ b, opn = some b ∧ prg b = 4) {N k : Nat} {x1 : Int32} (hk : k < 100) : fX2_makeRoom_4 (xN nb) K (N + 1) x1 (nI k) u = xBody nb K N x1 (nI k) u := by
  have hr : fX1_hasRoom (xN nb) K (xu_opn u) u = some (zI 0, u) := by
    rw [hX.1.2.1]
    rcases hno with h | ⟨b, h, h4⟩
    · rw [h]; rfl
    · rw [h]
      show fX1_hasRoom (xN nb) K (nI b) u = _
      rw [X_hasRoom hX hW (hW.2.2.2.2.2.2 b h), decide_eq_false (by omega)]
      rfl
  rw [fX2_makeRoom_4, if_neg (by rw [zn100]; exact nI_ge hk (by omega)), hr, bsome]
  show (if zI 0 = 0 then _ else _) = _
  rw [if_pos (by decide)]
  rfl
theorem X_isRoom (hX : RXP nb sp sec val ser kin era prg new nxt opn ops fus ent ese eva eso u) (hW : WfP nb c sec ser kin era prg new nxt opn) {b : Nat} (ho : opn = some b) (hp : prg b < 4) {N k : Nat} {x1 : Int32} (hk : k < 100) : fX2_makeRoom_4 (xN nb) K (N + 1) x1 (nI k) u = some (zI 1, u) := by
  have hr : fX1_hasRoom (xN nb) K (xu_opn u) u = some (zI 1, u) := by
    rw [hX.1.2.1, ho]
    show fX1_hasRoom (xN nb) K (nI b) u = _
    rw [X_hasRoom hX hW (hW.2.2.2.2.2.2 b ho), decide_eq_true hp]
    rfl
  rw [fX2_makeRoom_4, if_neg (by rw [zn100]; exact nI_ge hk (by omega)), hr, bsome]
  show (if zI 1 = 0 then _ else _) = _
  rw [if_neg (by decide)]
theorem M_noRoom (hK : 60 < K) (hM : RMP nb sp sec val ser kin era prg new nxt opn ops fus ent ese eva eso v) (hW : WfP nb c sec ser kin era prg new nxt opn) (hno : opn = none ∨ ∃ b, opn = some b ∧ prg b = 4) {N k : Nat} {x1 : Int32} (hk : k < 100) : fX3_room_4 mN K (N + 1) x1 (nI k) v = mBody K N x1 (nI k) v := by
  have h12 := hW.1.2.1
  rw [fX3_room_4, if_neg (by rw [zn1000]; exact nI_ge (by omega) (by omega)), hM.1.2.1]
  rcases hno with h | ⟨b, h, h4⟩
  · rw [h, if_pos cO_n]
    rfl
  · have hb := hW.2.2.2.2.2.2 b h
    rw [h, if_neg (cO_sne (by omega))]
    show (fX3_programmed mN K (nI b) v).bind _ = _
    rw [M_programmed hK (fun p hp => (hM.2.1 p hp).1) hW hb, bsome]
    show (if nI (prg b) = zI 4 then _ else _) = _
    rw [if_pos (by rw [h4, zn4])]
    rfl
theorem M_isRoom (hK : 60 < K) (hM : RMP nb sp sec val ser kin era prg new nxt opn ops fus ent ese eva eso v) (hW : WfP nb c sec ser kin era prg new nxt opn) {b : Nat} (ho : opn = some b) (hp : prg b < 4) {N k : Nat} {x1 : Int32} (hk : k < 100) : fX3_room_4 mN K (N + 1) x1 (nI k) v = some (zI 1, v) := by
  have h12 := hW.1.2.1
  have hb := hW.2.2.2.2.2.2 b ho
  rw [fX3_room_4, if_neg (by rw [zn1000]; exact nI_ge (by omega) (by omega)), hM.1.2.1, ho, if_neg (cO_sne (by omega))]
  show (fX3_programmed mN K (nI b) v).bind _ = _
  rw [M_programmed hK (fun p hp => (hM.2.1 p hp).1) hW hb, bsome]
  show (if nI (prg b) = zI 4 then _ else _) = _
  rw [if_neg (fun e => by have := nI_inj (by omega) (by omega) (e.trans zn4); omega)]
/-- one block is opened that is the last free one, and a victim is collected into it -/
theorem col_step (hK : 60 < K) (hX : RXP nb sp sec val ser kin era prg new nxt opn ops fus ent ese eva eso u) (hM : RMP nb sp sec val ser kin era prg new nxt opn ops fus ent ese eva eso v) (hW : WfP nb c sec ser kin era prg new nxt opn) (hc9 : c + 5 ≤ 90000) (hf2 : fus ≤ 1000) {z : Nat} (ho : opn = some z) (hz0 : prg z = 0) (hfull : ∀ i, i < nb → i ≠ z → prg i = 4) (fw : Bool) (N M : Nat) (ev k : Int32) :
    ∃ (w : Nat) (res : Bool) (u' : XU) (v' : MU) (sec' : Nat → Option Nat) (val' : Nat → Int32) (ser' : Nat → Nat) (kin' : Nat → Int32) (era' prg' : Nat → Nat) (new' : Nat → Option Nat) (nxt' : Nat) (ops' : Int32) (fus' : Nat),
      RXP nb sp sec' val' ser' kin' era' prg' new' nxt' opn ops' fus' ent ese eva eso u' ∧ RMP nb sp sec' val' ser' kin' era' prg' new' nxt' opn ops' fus' ent ese eva eso v' ∧ WfP nb (c + 5) sec' ser' kin' era' prg' new' nxt' opn ∧ fus' ≤ fus ∧ w < nb ∧ w ≠ z ∧ (∀ i, i < nb → i ≠ z → i ≠ w → prg' i = 4) ∧
      (res = true → xCol nb K N (zb fw) ev k u = fX2_makeRoom_4 (xN nb) K N ev k u' ∧ mCol K M (zb (!fw)) ev k v = fX3_room_4 mN K M ev k v' ∧ prg' w = 0 ∧ prg' z ≤ 4 ∧ (fw = false → prg' z ≤ 3)) ∧
      (res = false → xCol nb K N (zb fw) ev k u = some (zI 0, u') ∧ mCol K M (zb (!fw)) ev k v = some (zI 0, v') ∧ fus' = 0 ∧ prg' w = 4 ∧ prg' z + vc sec' new' w ≤ 4) := by
  obtain ⟨⟨h5, h12, -⟩, -⟩ := id hW
  have hz := hW.2.2.2.2.2.2 z ho
  obtain ⟨w0, hw0, hw0z, hw0v⟩ := few_valid hW hz hfull
  obtain ⟨w, hw, hwn, hwF, hwc⟩ := amin_ex (ok := isF prg) (cost := vcost sec new era fw) hw0 (by simp [isF, hfull w0 hw0 hw0z])
  have hw4 : prg w = 4 := by simpa [isF] using hwF
  have hwz : w ≠ z := fun e => by rw [e] at hw4; omega
  have hcol := collect_both hK hX hM hW hc9 hf2 hwn (fun e => hwz (Option.some.inj (ho.symm.trans e)).symm) (Or.inr ⟨z, ho, by have := vc_le sec new w; omega⟩)
  obtain ⟨res, u', v', s1, s2, s3, s4, s5, s6, s7, s8, s9, s10, a1, a2, a3, a4, a5, a6, a7, a8, a9⟩ := hcol
  have hF : xCol nb K N (zb fw) ev k u = if zb res = 0 then some (zI 0, u') else fX2_makeRoom_4 (xN nb) K N ev k u' := by
    unfold xCol
    rw [X_victim hK hX hW fw, bsome, hw]
    show (fX2_collect (xN nb) K (nI w) u).bind _ = _
    rw [a1, bsome]
  have hG : mCol K M (zb (!fw)) ev k v = if zb res = 0 then some (zI 0, v') else fX3_room_4 mN K M ev k v' := by
    unfold mCol
    rw [M_victim hK hM.1.2.2.1 (fun p hp => (hM.2.1 p hp).1) (fun p s hp hs => ((hM.2.1 p hp).2 s hs).2.1) hM.2.2.1 hW fw, bsome, hw]
    show (fX3_collect mN K (nI w) v).bind _ = _
    rw [a2, bsome]
  refine ⟨w, res, u', v', s1, s2, s3, s4, s5, s6, s7, s8, s9, s10, a3, a4, a5, a6, hwn, hwz, fun i hi h1 h2 => ?_, fun h => ?_, fun h => ?_⟩
  · rw [a7 i (fun e => h1 (Option.some.inj (ho.symm.trans e)).symm) h2]
    exact hfull i hi h1
  · subst h
    obtain ⟨b1, b2⟩ := a8 rfl
    have b3 := b2 z ho
    refine ⟨by rw [hF, if_neg (by decide)], by rw [hG, if_neg (by decide)], b1, by have := vc_le sec new w; omega, fun hfw => ?_⟩
    have e1 := hW.2.1.2 w hwn
    have e2 := hW.2.1.2 w0 hw0
    have e3 := hW.1.2.2
    subst hfw
    simp only [vcost, vval] at hwc
    simp at hwc
    omega
  · subst h
    obtain ⟨b1, b2, b3, b4⟩ := a9 rfl
    have := b4 z ho
    have := vc_le sec new w
    exact ⟨by rw [hF, if_pos (by decide)], by rw [hG, if_pos (by decide)], b1, by rw [b3]; exact hw4, by omega⟩
end
