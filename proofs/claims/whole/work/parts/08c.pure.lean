def vval (sec new : Nat → Option Nat) (fw : Bool) (b : Nat) : Nat := if fw then 0 else vc sec new b
def vcost (sec new : Nat → Option Nat) (era : Nat → Nat) (fw : Bool) (b : Nat) : Nat := era b + 100000 * vval sec new fw b
def bvl (sec new : Nat → Option Nat) (fw : Bool) (o : Option Nat) : Nat := match o with
  | none => 0
  | some j => vval sec new fw j
theorem vval_le (sec new : Nat → Option Nat) (fw : Bool) (b : Nat) : vval sec new fw b ≤ 4 := by
  unfold vval
  cases fw
  · exact vc_le sec new b
  · exact Nat.zero_le 4
section
variable {nb sp c K : Nat} {sec : Nat → Option Nat} {val : Nat → Int32} {ser : Nat → Nat} {kin : Nat → Int32} {era prg : Nat → Nat} {new : Nat → Option Nat} {nxt : Nat} {opn : Option Nat} {ops : Int32} {fus ent : Nat} {ese : Nat → Nat} {eva eso : Nat → Int32} {u : XU} {v : MU}
theorem vic_none {β : Type} (x3 w : Int32) (X Y A : Option β) : (if x3 ≤ w then (if cO none = zI (-1) then A else X) else (if cO none = zI (-1) then A else Y)) = A := by
  rw [if_pos cO_n, if_pos cO_n]
  split <;> rfl
theorem vic_some {β : Type} {hb : Nat} (hX : RXP nb sp sec val ser kin era prg new nxt opn ops fus ent ese eva eso u) (hW : WfP nb c sec ser kin era prg new nxt opn) {b j w wj : Nat} (hb : b < nb) (hj : j < nb) (hw : w ≤ 4) (hwj : wj ≤ 4) (A B : Option β) : (if nI wj ≤ nI w then (if nI j = zI (-1) then A else (if nI w = nI wj then (vg (nI b) nb (vg (nI j) nb (if xu_wea u (nI j).toNatClampNeg ≤ xu_wea u b then B else A))) else B)) else (if nI j = zI (-1) then A else (if nI w = nI wj then (vg (nI b) nb (vg (nI j) nb (if xu_wea u (nI j).toNatClampNeg ≤ xu_wea u b then A else A))) else A))) = if era b + 100000 * w < era j + 100000 * wj then A else B := by
  obtain ⟨⟨h5, h12, hc⟩, ⟨-, her⟩, hpg, -⟩ := hW
  have e1 := her b hb
  have e2 := her j hj
  rw [if_neg (nI_nem (by omega)), if_neg (nI_nem (by omega)), vg_in hb (by omega), vg_in hj (by omega), vg_in hb (by omega), vg_in hj (by omega), nI_clamp (by omega), (hX.2.2.1 j hj).2, (hX.2.2.1 b hb).2]
  rcases Nat.lt_trichotomy w wj with h | h | h
  · rw [if_neg (nI_ge h (by omega)), if_neg (fun e => by have := nI_inj (by omega) (by omega) e; omega), if_pos (by omega)]
  · subst h
    rw [if_pos (nI_le (Nat.le_refl w) (by omega)), if_pos rfl]
    by_cases h2 : era b < era j
    · rw [if_neg (nI_ge h2 (by omega)), if_pos (by omega)]
    · rw [if_pos (nI_le (by omega) (by omega)), if_neg (by omega)]
  · rw [if_pos (nI_le (by omega) (by omega)), if_neg (fun e => by have := nI_inj (by omega) (by omega) e; omega), if_neg (by omega)]
theorem X_vic_loop (hK : 60 < K) (hX : RXP nb sp sec val ser kin era prg new nxt opn ops fus ent ese eva eso u) (hW : WfP nb c sec ser kin era prg new nxt opn) (fw : Bool) : ∀ r N b, b + r = nb → r < N → fX1_victim_7 (xN nb) K N (zb fw) (cO (amin (isF prg) (vcost sec new era fw) b)) (nI (bvl sec new fw (amin (isF prg) (vcost sec new era fw) b))) (nI b) u = some (cO (amin (isF prg) (vcost sec new era fw) nb), u) := by
  obtain ⟨⟨h5, h12, hc⟩, ⟨-, her⟩, hpg, -⟩ := id hW
  have hblk := hX.1.2.2.1
  intro r
  induction r with
  | zero =>
    intro N b hq hN
    obtain ⟨N', rfl⟩ : ∃ N', N = N' + 1 := ⟨N - 1, by omega⟩
    rw [fX1_victim_7, hblk, if_pos (nI_le (by omega) (by omega))]
    have e : b = nb := by omega
    rw [e]
  | succ r ih =>
    intro N b hq hN
    obtain ⟨N', rfl⟩ : ∃ N', N = N' + 1 := ⟨N - 1, by omega⟩
    have h4 := (hpg b (by omega)).1
    have ih := ih N' (b + 1) (by omega) (by omega)
    rw [fX1_victim_7, hblk, if_neg (nI_ge (by omega) (by omega)), xN7, vg_in (by omega) (by omega), nI_clamp (by omega), (hX.2.2.1 b (by omega)).1, zn1, nI_add, zn4]
    by_cases hv : prg b = 4
    · have hok : isF prg b = true := by simp [isF, hv]
      rw [if_pos (by rw [hv]; exact nI_le (Nat.le_refl 4) (by omega))]
      have key : ∀ w : Nat, w = vval sec new fw b → ∀ A B : Option (Int32 × XU), A = fX1_victim_7 (xN nb) K N' (zb fw) (nI b) (nI w) (nI (b + 1)) u → B = fX1_victim_7 (xN nb) K N' (zb fw) (cO (amin (isF prg) (vcost sec new era fw) b)) (nI (bvl sec new fw (amin (isF prg) (vcost sec new era fw) b))) (nI (b + 1)) u → (if nI (bvl sec new fw (amin (isF prg) (vcost sec new era fw) b)) ≤ nI w then (if cO (amin (isF prg) (vcost sec new era fw) b) = zI (-1) then A else (if nI w = nI (bvl sec new fw (amin (isF prg) (vcost sec new era fw) b)) then (vg (nI b) nb (vg (cO (amin (isF prg) (vcost sec new era fw) b)) nb (if xu_wea u (cO (amin (isF prg) (vcost sec new era fw) b)).toNatClampNeg ≤ xu_wea u b then B else A))) else B)) else (if cO (amin (isF prg) (vcost sec new era fw) b) = zI (-1) then A else (if nI w = nI (bvl sec new fw (amin (isF prg) (vcost sec new era fw) b)) then (vg (nI b) nb (vg (cO (amin (isF prg) (vcost sec new era fw) b)) nb (if xu_wea u (cO (amin (isF prg) (vcost sec new era fw) b)).toNatClampNeg ≤ xu_wea u b then A else A))) else A))) = some (cO (amin (isF prg) (vcost sec new era fw) nb), u) := by
        intro w hw A B hA hB
        cases ha : amin (isF prg) (vcost sec new era fw) b with
        | none =>
          rw [amin_new hok ha] at ih
          rw [vic_none, hA, hw]
          exact ih
        | some j =>
          have hj := amin_lt ha
          refine (vic_some (hb := 0) hX hW (b := b) (j := j) (w := w) (wj := vval sec new fw j) (by omega) (by omega) (by rw [hw]; exact vval_le sec new fw b) (vval_le sec new fw j) A B).trans ?_
          by_cases hc2 : vcost sec new era fw b < vcost sec new era fw j
          · rw [amin_is hok ha hc2] at ih
            rw [if_pos (by rw [hw]; exact hc2), hA, hw]
            exact ih
          · rw [amin_st hok ha hc2] at ih
            rw [if_neg (by rw [hw]; exact hc2), hB, ha]
            exact ih
      cases fw with
      | false =>
        rw [if_pos (by decide), X_countValid hK hX hW (by omega), bsome]
        exact key (vc sec new b) rfl _ _ rfl rfl
      | true =>
        rw [if_neg (by decide), zn0]
        exact key 0 rfl _ _ rfl rfl
    · have hok : isF prg b = false := by simp [isF, hv]
      rw [amin_no hok] at ih
      rw [if_neg (nI_ge (by omega) (by omega))]
      exact ih
theorem X_victim (hK : 60 < K) (hX : RXP nb sp sec val ser kin era prg new nxt opn ops fus ent ese eva eso u) (hW : WfP nb c sec ser kin era prg new nxt opn) (fw : Bool) : fX1_victim (xN nb) K (zb fw) u = some (cO (amin (isF prg) (vcost sec new era fw) nb), u) := by
  have h12 := hW.1.2.1
  unfold fX1_victim
  rw [zn0]
  exact X_vic_loop hK hX hW fw nb K 0 (by omega) (by omega)
theorem gap_loop (hX : RXP nb sp sec val ser kin era prg new nxt opn ops fus ent ese eva eso u) (hM : RMP nb sp sec val ser kin era prg new nxt opn ops fus ent ese eva eso v) (hW : WfP nb c sec ser kin era prg new nxt opn) : ∀ r N b x1 x2, b + r = nb → r < N → ∃ x, fX1_wearGap_16 (xN nb) K N x1 x2 (nI b) u = some (x, u) ∧ fX3_uneven_16 mN K N x2 x1 (nI b) v = some (zb (decide (¬ x ≤ nI sp)), v) := by
  obtain ⟨⟨h5, h12, hc⟩, ⟨-, her⟩, hpg, -⟩ := hW
  have hblk := hX.1.2.2.1
  have hblk' := hM.1.2.2.1
  intro r
  induction r with
  | zero =>
    intro N b x1 x2 hq hN
    obtain ⟨N', rfl⟩ : ∃ N', N = N' + 1 := ⟨N - 1, by omega⟩
    refine ⟨x2 - x1, ?_, ?_⟩
    · rw [fX1_wearGap_16, hblk, if_pos (nI_le (by omega) (by omega))]
    · rw [fX3_uneven_16, hblk', if_pos (nI_le (by omega) (by omega)), hM.1.1]
      by_cases h : x2 - x1 ≤ nI sp
      · rw [if_pos h]; simp [h, zb]
      · rw [if_neg h]; simp [h, zb]
  | succ r ih =>
    intro N b x1 x2 hq hN
    obtain ⟨N', rfl⟩ : ∃ N', N = N' + 1 := ⟨N - 1, by omega⟩
    rw [fX1_wearGap_16, hblk, if_neg (nI_ge (by omega) (by omega)), xN8, vg_in (by omega) (by omega), vg_in (by omega) (by omega), nI_clamp (by omega), (hX.2.2.1 b (by omega)).2]
    rw [fX3_uneven_16, hblk', if_neg (nI_ge (by omega) (by omega)), mN5]
    repeat rw [vg_in (by omega) (by omega)]
    rw [nI_clamp (by omega), hM.2.2.1 b (by omega), zn1, nI_add]
    by_cases h1 : nI (era b) < x1
    · rw [if_pos h1, if_neg (Int32.not_le.mpr h1), if_neg (Int32.not_le.mpr h1)]
      by_cases h2 : x2 < nI (era b)
      · rw [if_pos h2, if_neg (Int32.not_le.mpr h2)]
        exact ih N' (b + 1) _ _ (by omega) (by omega)
      · rw [if_neg h2, if_pos (Int32.not_lt.mp h2)]
        exact ih N' (b + 1) _ _ (by omega) (by omega)
    · rw [if_neg h1, if_pos (Int32.not_lt.mp h1), if_pos (Int32.not_lt.mp h1)]
      by_cases h2 : x2 < nI (era b)
      · rw [if_pos h2, if_neg (Int32.not_le.mpr h2)]
        exact ih N' (b + 1) _ _ (by omega) (by omega)
      · rw [if_neg h2, if_pos (Int32.not_lt.mp h2)]
        exact ih N' (b + 1) _ _ (by omega) (by omega)
theorem gap_both (hK : 60 < K) (hX : RXP nb sp sec val ser kin era prg new nxt opn ops fus ent ese eva eso u) (hM : RMP nb sp sec val ser kin era prg new nxt opn ops fus ent ese eva eso v) (hW : WfP nb c sec ser kin era prg new nxt opn) : ∃ x, fX1_wearGap (xN nb) K u = some (x, u) ∧ fX3_uneven mN K v = some (zb (decide (¬ x ≤ nI sp)), v) := by
  obtain ⟨⟨h5, h12, hc⟩, ⟨-, her⟩, hpg, -⟩ := id hW
  unfold fX1_wearGap fX3_uneven
  rw [zn0, xN8, mN5, vg_in (by omega) (by omega), vg_in (by omega) (by omega), vg_in (by omega) (by omega), vg_in (by omega) (by omega), nI_clamp (by omega), (hX.2.2.1 0 (by omega)).2, hM.2.2.1 0 (by omega), zn1]
  exact gap_loop hX hM hW (nb - 1) K 1 _ _ (by omega) (by omega)
/-- the block that is neither free nor full, if there is one -/
def prtP (nb : Nat) (prg : Nat → Nat) (po : Option Nat) : Prop := (∀ b, po = some b → b < nb ∧ 0 < prg b ∧ prg b < 4) ∧ ∀ b, b < nb → 0 < prg b → prg b < 4 → po = some b
theorem X_pp_loop (hX : RXP nb sp sec val ser kin era prg new nxt opn ops fus ent ese eva eso u) (hW : WfP nb c sec ser kin era prg new nxt opn) {po : Option Nat} (hpo : prtP nb prg po) : ∀ r N b, b + r = nb → r < N → (∀ b', b' < b → ¬ (0 < prg b' ∧ prg b' < 4)) → fX1_partlyProgrammed_2 (xN nb) K N (nI b) u = some (cO po, u) := by
  obtain ⟨⟨h5, h12, hc⟩, ⟨-, her⟩, hpg, -⟩ := hW
  have hblk := hX.1.2.2.1
  intro r
  induction r with
  | zero =>
    intro N b hq hN hbf
    obtain ⟨N', rfl⟩ : ∃ N', N = N' + 1 := ⟨N - 1, by omega⟩
    rw [fX1_partlyProgrammed_2, hblk, if_pos (nI_le (by omega) (by omega))]
    cases h : po with
    | none => rfl
    | some j =>
      have h1 := hpo.1 j h
      exact absurd ⟨h1.2.1, h1.2.2⟩ (hbf j (by omega))
  | succ r ih =>
    intro N b hq hN hbf
    obtain ⟨N', rfl⟩ : ∃ N', N = N' + 1 := ⟨N - 1, by omega⟩
    have h4 := (hpg b (by omega)).1
    rw [fX1_partlyProgrammed_2, hblk, if_neg (nI_ge (by omega) (by omega)), xN7, vg_in (by omega) (by omega), vg_in (by omega) (by omega), nI_clamp (by omega), (hX.2.2.1 b (by omega)).1, zn1, nI_add, zn4, on0]
    by_cases h1 : prg b = 0
    · rw [if_pos (nI_le (by omega) (by omega))]
      exact ih N' (b + 1) (by omega) (by omega) (fun b' hb' => by
        by_cases e : b' = b
        · rw [e]; omega
        · exact hbf b' (by omega))
    · rw [if_neg (nI_ge (by omega) (by omega))]
      by_cases h2 : prg b = 4
      · rw [if_pos (nI_le (by omega) (by omega))]
        exact ih N' (b + 1) (by omega) (by omega) (fun b' hb' => by
          by_cases e : b' = b
          · rw [e]; omega
          · exact hbf b' (by omega))
      · rw [if_neg (nI_ge (by omega) (by omega)), hpo.2 b (by omega) (by omega) (by omega)]
        rfl
theorem X_part (hK : 60 < K) (hX : RXP nb sp sec val ser kin era prg new nxt opn ops fus ent ese eva eso u) (hW : WfP nb c sec ser kin era prg new nxt opn) {po : Option Nat} (hpo : prtP nb prg po) : fX1_partlyProgrammed (xN nb) K u = some (cO po, u) := by
  have h12 := hW.1.2.1
  unfold fX1_partlyProgrammed
  rw [zn0]
  exact X_pp_loop hX hW hpo nb K 0 (by omega) (by omega) (fun b' hb' => by omega)
/-- one more than the greatest serial number of the pages below p -/
def mxs (sec : Nat → Option Nat) (ser : Nat → Nat) : Nat → Nat
  | 0 => 0
  | p + 1 => if (sec p).isSome && decide (mxs sec ser p ≤ ser p) then ser p + 1 else mxs sec ser p
theorem mxs_n {sec : Nat → Option Nat} {ser : Nat → Nat} {p : Nat} (h : sec p = none) : mxs sec ser (p + 1) = mxs sec ser p := by
  rw [mxs, h]; rfl
theorem mxs_y {sec : Nat → Option Nat} {ser : Nat → Nat} {p s : Nat} (h : sec p = some s) (h2 : mxs sec ser p ≤ ser p) : mxs sec ser (p + 1) = ser p + 1 := by
  rw [mxs, h, if_pos (by simp [h2])]
theorem mxs_k {sec : Nat → Option Nat} {ser : Nat → Nat} {p s : Nat} (h : sec p = some s) (h2 : ¬ mxs sec ser p ≤ ser p) : mxs sec ser (p + 1) = mxs sec ser p := by
  rw [mxs, h, if_neg (by simp [h2])]
def gI (m : Nat) : Int32 := zI ((m : Int) - 1)
theorem gI_0 : gI 0 = zI (-1) := rfl
theorem gI_s (m : Nat) : gI (m + 1) = nI m := by
  unfold gI zI nI
  rw [show ((m + 1 : Nat) : Int) - 1 = (m : Int) from by omega]
  exact Int32.ofInt_eq_ofNat
theorem gI_lt {m s : Nat} (hm : m < 2 ^ 31) (hs : s < 2 ^ 31) : gI m < nI s ↔ m ≤ s := by
  cases m with
  | zero =>
    rw [gI_0, Int32.lt_iff_toInt_lt, nI_toInt hs]
    have h2 : (zI (-1)).toInt = -1 := by decide
    omega
  | succ m => rw [gI_s, nI_ltI (by omega) hs]; omega
theorem gI_1 (m : Nat) : gI m + nI 1 = nI m := by
  cases m with
  | zero => decide
  | succ m => rw [gI_s, nI_add]
theorem X_gs_loop (hX : RXP nb sp sec val ser kin era prg new nxt opn ops fus ent ese eva eso u) (hW : WfP nb c sec ser kin era prg new nxt opn) : ∀ r N p, p + r = 4 * nb → r < N → mxs sec ser p ≤ c → fX1_greatestSerial_4 (xN nb) K N (gI (mxs sec ser p)) (nI p) u = some (gI (mxs sec ser (4 * nb)), u) := by
  obtain ⟨⟨h5, h12, hc⟩, ⟨hnx, her⟩, hpg, hs4, -⟩ := hW
  intro r
  induction r with
  | zero =>
    intro N p hq hN hm
    obtain ⟨N', rfl⟩ : ∃ N', N = N' + 1 := ⟨N - 1, by omega⟩
    rw [fX1_greatestSerial_4, xN6, if_pos (nI_le (by omega) (by omega))]
    have e : p = 4 * nb := by omega
    rw [e]
  | succ r ih =>
    intro N p hq hN hm
    obtain ⟨N', rfl⟩ : ∃ N', N = N' + 1 := ⟨N - 1, by omega⟩
    have ih := ih N' (p + 1) (by omega) (by omega)
    rw [fX1_greatestSerial_4, xN6, if_neg (nI_ge (by omega) (by omega)), xN5, vg_in (by omega) (by omega), nI_clamp (by omega), zn1, nI_add]
    cases hs : sec p with
    | none =>
      rw [mxs_n hs] at ih
      rw [if_pos ((hX.2.1 p (by omega)).1 hs)]
      exact ih hm
    | some s =>
      obtain ⟨e1, e2, e3, e4⟩ := (hX.2.1 p (by omega)).2 s hs
      obtain ⟨a1, a2, a3⟩ := hs4 p s (by omega) hs
      rw [e1, if_neg a3, vg_in (by omega) (by omega), e4]
      by_cases h : mxs sec ser p ≤ ser p
      · rw [if_pos ((gI_lt (by omega) (by omega)).mpr h)]
        rw [mxs_y hs h, gI_s] at ih
        exact ih (by omega)
      · rw [if_neg (fun e => h ((gI_lt (by omega) (by omega)).mp e))]
        rw [mxs_k hs h] at ih
        exact ih hm
theorem X_greatest (hK : 60 < K) (hX : RXP nb sp sec val ser kin era prg new nxt opn ops fus ent ese eva eso u) (hW : WfP nb c sec ser kin era prg new nxt opn) : fX1_greatestSerial (xN nb) K u = some (gI (mxs sec ser (4 * nb)), u) := by
  have h12 := hW.1.2.1
  unfold fX1_greatestSerial
  rw [zn0]
  exact X_gs_loop hX hW (4 * nb) K 0 (by omega) (by omega) (Nat.zero_le _)
theorem mxs_le (hW : WfP nb c sec ser kin era prg new nxt opn) : ∀ p, p ≤ 4 * nb → mxs sec ser p ≤ nxt := by
  obtain ⟨⟨h5, h12, hc⟩, ⟨hnx, her⟩, hpg, hs4, -⟩ := hW
  intro p
  induction p with
  | zero => intro _; exact Nat.zero_le _
  | succ p ih =>
    intro hp
    have ih := ih (by omega)
    unfold mxs
    cases hs : sec p with
    | none => simpa using ih
    | some s =>
      have h := (hs4 p s (by omega) hs).2.1
      split <;> omega
theorem mxs_gt : ∀ n p s, p < n → sec p = some s → ser p < mxs sec ser n := by
  intro n
  induction n with
  | zero => intro p s h; omega
  | succ n ih =>
    intro p s hp hs
    unfold mxs
    by_cases e : p = n
    · subst e
      rw [hs]
      by_cases h : mxs sec ser p ≤ ser p
      · rw [if_pos (by simp [h])]; omega
      · rw [if_neg (by simp [h])]; omega
    · have := ih p s (by omega) hs
      split
      · rename_i h
        simp at h
        omega
      · exact this
end
