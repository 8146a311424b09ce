/-! ===== the state in plain words, and how class and reference hold it ===== -/
def WfP (nb c : Nat) (sec : Nat → Option Nat) (ser : Nat → Nat) (kin : Nat → Int32) (era prg : Nat → Nat) (new : Nat → Option Nat) (nxt : Nat) (opn : Option Nat) : Prop :=
  (5 ≤ nb ∧ nb ≤ 12 ∧ c ≤ 90000) ∧ (nxt ≤ c ∧ ∀ b, b < nb → era b ≤ c) ∧
  (∀ b, b < nb → prg b ≤ 4 ∧ ∀ q, q < 4 → (sec (4 * b + q) ≠ none ↔ q < prg b)) ∧
  (∀ p s, p < 4 * nb → sec p = some s → s < 4 * (nb - 3) ∧ ser p < nxt ∧ kin p ≠ 0) ∧
  (∀ p p' s s', p < 4 * nb → p' < 4 * nb → sec p = some s → sec p' = some s' → ser p = ser p' → p = p') ∧
  (∀ s, s < 4 * (nb - 3) → (new s = none ∧ ∀ p, p < 4 * nb → sec p ≠ some s) ∨ ∃ p, new s = some p ∧ p < 4 * nb ∧ sec p = some s ∧ ∀ p', p' < 4 * nb → sec p' = some s → ser p' ≤ ser p) ∧
  (∀ b, opn = some b → b < nb)
def RXP (nb sp : Nat) (sec : Nat → Option Nat) (val : Nat → Int32) (ser : Nat → Nat) (kin : Nat → Int32) (era prg : Nat → Nat) (new : Nat → Option Nat) (nxt : Nat) (opn : Option Nat) (ops : Int32) (fus ent : Nat) (ese : Nat → Nat) (eva eso : Nat → Int32) (u : XU) : Prop :=
  (xu_spr u = nI sp ∧ xu_opn u = cO opn ∧ xu_blk u = nI nb ∧ xu_nxt u = nI nxt ∧ xu_ops u = ops ∧ xu_fus u = nI fus ∧ xu_cnt u = nI ent) ∧
  (∀ p, p < 4 * nb → (sec p = none → xu_kin u p = 0) ∧ ∀ s, sec p = some s → xu_kin u p = kin p ∧ xu_own u p = nI s ∧ xu_val u p = val p ∧ xu_ser u p = nI (ser p)) ∧
  (∀ b, b < nb → xu_prg u b = nI (prg b) ∧ xu_wea u b = nI (era b)) ∧
  (∀ s, s < 4 * (nb - 3) → xu_new u s = cO (new s)) ∧
  (∀ k, k < ent → xu_bse u k = nI (ese k) ∧ xu_bva u k = eva k ∧ xu_bki u k = eso k)
def RMP (nb sp : Nat) (sec : Nat → Option Nat) (val : Nat → Int32) (ser : Nat → Nat) (kin : Nat → Int32) (era prg : Nat → Nat) (new : Nat → Option Nat) (nxt : Nat) (opn : Option Nat) (ops : Int32) (fus ent : Nat) (ese : Nat → Nat) (eva eso : Nat → Int32) (v : MU) : Prop :=
  (mu_spr v = nI sp ∧ mu_opn v = cO opn ∧ mu_blk v = nI nb ∧ mu_nxt v = nI nxt ∧ mu_ops v = ops ∧ mu_fus v = nI fus ∧ mu_ent v = nI ent) ∧
  (∀ p, p < 4 * nb → mu_sec v p = cO (sec p) ∧ ∀ s, sec p = some s → mu_val v p = val p ∧ mu_ser v p = nI (ser p) ∧ mu_sor v p = kin p) ∧
  (∀ b, b < nb → mu_era v b = nI (era b)) ∧
  (∀ k, k < ent → mu_ese v k = nI (ese k) ∧ mu_eva v k = eva k ∧ mu_eso v k = eso k)
theorem cO_n : cO none = zI (-1) := rfl
def isZ (prg : Nat → Nat) (b : Nat) : Bool := prg b == 0
def isF (prg : Nat → Nat) (b : Nat) : Bool := prg b == 4
def vld (sec new : Nat → Option Nat) (p : Nat) : Bool := match sec p with
  | none => false
  | some s => decide (new s = some p)
def vc (sec new : Nat → Option Nat) (b : Nat) : Nat := cntB (vld sec new) (4 * b) 4
def zb (b : Bool) : Int32 := if b then zI 1 else zI 0
theorem zb_0 {b : Bool} : zb b = 0 ↔ b = false := by cases b <;> decide
theorem vc_le (sec new : Nat → Option Nat) (b : Nat) : vc sec new b ≤ 4 := cntB_le _ 4 _
section
variable {nb sp c K : Nat} {sec : Nat → Option Nat} {val : Nat → Int32} {ser : Nat → Nat} {kin : Nat → Int32} {era prg : Nat → Nat} {new : Nat → Option Nat} {nxt : Nat} {opn : Option Nat} {ops : Int32} {fus ent : Nat} {ese : Nat → Nat} {eva eso : Nat → Int32} {u : XU} {v : MU}
theorem nI_page (b q : Nat) : nI b * zI 4 + nI q = nI (4 * b + q) := by
  rw [zn4, pk_mul, nI_add, Nat.mul_comm]
theorem nI_page' (b q : Nat) : zI 4 * nI b + nI q = nI (4 * b + q) := by
  rw [zn4, pk_mul, nI_add]
theorem X_isValid (hX : RXP nb sp sec val ser kin era prg new nxt opn ops fus ent ese eva eso u) (hW : WfP nb c sec ser kin era prg new nxt opn) {p : Nat} (hp : p < 4 * nb) : fX1_isValid (xN nb) K (nI p) u = some (zb (vld sec new p), u) := by
  obtain ⟨⟨h5, h12, hc⟩, -, -, hs4, -, hnw, -⟩ := hW
  unfold fX1_isValid
  rw [xN5, vg_in hp (by omega), nI_clamp (by omega)]
  cases hs : sec p with
  | none => rw [if_pos ((hX.2.1 p hp).1 hs)]; simp [vld, hs, zb]
  | some s =>
    obtain ⟨e1, e2, e3, e4⟩ := (hX.2.1 p hp).2 s hs
    obtain ⟨a1, a2, a3⟩ := hs4 p s hp hs
    rw [e1, if_neg a3, xN3, vg_in hp (by omega), e2, xN9, vg_in a1 (by omega), nI_clamp (by omega), hX.2.2.2.1 s a1]
    have hnb : ∀ k, new s = some k → k < 2 ^ 31 := fun k hk => by
      rcases hnw s a1 with ⟨e, -⟩ | ⟨q, e, hq, -⟩
      · rw [e] at hk; cases hk
      · rw [e] at hk; cases hk; omega
    by_cases h : new s = some p
    · rw [if_pos ((cO_some hnb (by omega)).mpr h)]; simp [vld, hs, h, zb]
    · rw [if_neg (fun e => h ((cO_some hnb (by omega)).mp e))]; simp [vld, hs, h, zb]
theorem X_cv_loop (hX : RXP nb sp sec val ser kin era prg new nxt opn ops fus ent ese eva eso u) (hW : WfP nb c sec ser kin era prg new nxt opn) {b : Nat} (hb : b < nb) : ∀ r N q acc, q + r = 4 → r < N → fX1_countValid_4 (xN nb) K N (nI b) (nI acc) (nI q) u = some (nI (acc + cntB (vld sec new) (4 * b + q) r), u) := by
  intro r
  induction r with
  | zero =>
    intro N q acc hq hN
    obtain ⟨N', rfl⟩ : ∃ N', N = N' + 1 := ⟨N - 1, by omega⟩
    rw [fX1_countValid_4, if_pos (by rw [zn4]; exact nI_le (by omega) (by omega))]
    rfl
  | succ r ih =>
    intro N q acc hq hN
    obtain ⟨N', rfl⟩ : ∃ N', N = N' + 1 := ⟨N - 1, by omega⟩
    rw [fX1_countValid_4, if_neg (by rw [zn4]; exact nI_ge (by omega) (by omega)), nI_page, X_isValid hX hW (by omega), bsome, zn1, nI_add, nI_add]
    dsimp only
    unfold cntB
    cases hv : vld sec new (4 * b + q) with
    | false =>
      rw [if_pos (by decide), ih N' (q + 1) acc (by omega) (by omega)]
      exact sm_nI (by rw [if_neg (by decide)]; rw [Nat.zero_add]; rfl)
    | true =>
      rw [if_neg (by decide), ih N' (q + 1) (acc + 1) (by omega) (by omega)]
      exact sm_nI (by rw [if_pos rfl, Nat.add_assoc]; rfl)
theorem X_countValid (hK : 60 < K) (hX : RXP nb sp sec val ser kin era prg new nxt opn ops fus ent ese eva eso u) (hW : WfP nb c sec ser kin era prg new nxt opn) {b : Nat} (hb : b < nb) : fX1_countValid (xN nb) K (nI b) u = some (nI (vc sec new b), u) := by
  unfold fX1_countValid
  rw [zn0, X_cv_loop hX hW hb 4 K 0 0 (by omega) (by omega)]
  exact sm_nI (Nat.zero_add _)
theorem X_cf_loop (hX : RXP nb sp sec val ser kin era prg new nxt opn ops fus ent ese eva eso u) (hW : WfP nb c sec ser kin era prg new nxt opn) : ∀ r N b acc, b + r = nb → r < N → fX1_countFree_4 (xN nb) K N (nI acc) (nI b) u = some (nI (acc + cntB (isZ prg) b r), u) := by
  obtain ⟨⟨h5, h12, hc⟩, -, hpg, -⟩ := hW
  have hblk := hX.1.2.2.1
  intro r
  induction r with
  | zero =>
    intro N b acc hq hN
    obtain ⟨N', rfl⟩ : ∃ N', N = N' + 1 := ⟨N - 1, by omega⟩
    rw [fX1_countFree_4, hblk, if_pos (nI_le (by omega) (by omega))]
    rfl
  | succ r ih =>
    intro N b acc hq hN
    obtain ⟨N', rfl⟩ : ∃ N', N = N' + 1 := ⟨N - 1, by omega⟩
    have h4 := (hpg b (by omega)).1
    rw [fX1_countFree_4, hblk, if_neg (nI_ge (by omega) (by omega)), xN7, vg_in (by omega) (by omega), nI_clamp (by omega), (hX.2.2.1 b (by omega)).1, zn1, nI_add, nI_add, on0]
    unfold cntB
    by_cases hv : prg b = 0
    · rw [if_pos (by rw [hv]), ih N' (b + 1) (acc + 1) (by omega) (by omega)]
      exact sm_nI (by rw [if_pos (by simp [isZ, hv]), Nat.add_assoc])
    · rw [if_neg (fun e => hv (nI_inj (by omega) (by omega) e)), ih N' (b + 1) acc (by omega) (by omega)]
      exact sm_nI (by rw [if_neg (by simp [isZ, hv]), Nat.zero_add])
theorem X_countFree (hK : 60 < K) (hX : RXP nb sp sec val ser kin era prg new nxt opn ops fus ent ese eva eso u) (hW : WfP nb c sec ser kin era prg new nxt opn) : fX1_countFree (xN nb) K u = some (nI (cntB (isZ prg) 0 nb), u) := by
  have h12 := hW.1.2.1
  unfold fX1_countFree
  rw [zn0, X_cf_loop hX hW nb K 0 0 (by omega) (by omega)]
  exact sm_nI (Nat.zero_add _)
theorem amin_lt {ok : Nat → Bool} {cost : Nat → Nat} {n j : Nat} (h : amin ok cost n = some j) : j < n := (amin_some ok cost n j h).1
theorem X_lw_loop (hX : RXP nb sp sec val ser kin era prg new nxt opn ops fus ent ese eva eso u) (hW : WfP nb c sec ser kin era prg new nxt opn) : ∀ r N b, b + r = nb → r < N → fX1_leastWornFree_4 (xN nb) K N (cO (amin (isZ prg) era b)) (nI b) u = some (cO (amin (isZ prg) era nb), u) := by
  obtain ⟨⟨h5, h12, hc⟩, ⟨-, her⟩, hpg, -⟩ := hW
  have hblk := hX.1.2.2.1
  intro r
  induction r with
  | zero =>
    intro N b hq hN
    obtain ⟨N', rfl⟩ : ∃ N', N = N' + 1 := ⟨N - 1, by omega⟩
    rw [fX1_leastWornFree_4, hblk, if_pos (nI_le (by omega) (by omega))]
    have e : b = nb := by omega
    rw [e]
  | succ r ih =>
    intro N b hq hN
    obtain ⟨N', rfl⟩ : ∃ N', N = N' + 1 := ⟨N - 1, by omega⟩
    have h4 := (hpg b (by omega)).1
    have ih := ih N' (b + 1) (by omega) (by omega)
    rw [fX1_leastWornFree_4, hblk, if_neg (nI_ge (by omega) (by omega)), xN7, vg_in (by omega) (by omega), nI_clamp (by omega), (hX.2.2.1 b (by omega)).1, zn1, nI_add, on0]
    by_cases hv : prg b = 0
    · have hok : isZ prg b = true := by simp [isZ, hv]
      rw [if_pos (by rw [hv])]
      cases ha : amin (isZ prg) era b with
      | none =>
        rw [amin_new hok ha] at ih
        rw [if_pos cO_n]
        exact ih
      | some j =>
        have hj := amin_lt ha
        have e1 := her b (by omega)
        have e2 := her j (by omega)
        show (if nI j = zI (-1) then _ else vg (nI b) (xN nb 8) (vg (nI j) (xN nb 8) (if xu_wea u (nI j).toNatClampNeg ≤ xu_wea u b then _ else _))) = _
        rw [if_neg (nI_nem (by omega)), xN8, vg_in (by omega) (by omega), vg_in (by omega) (by omega), nI_clamp (by omega), (hX.2.2.1 j (by omega)).2, (hX.2.2.1 b (by omega)).2]
        by_cases hc2 : era b < era j
        · rw [amin_is hok ha hc2] at ih
          rw [if_neg (nI_ge hc2 (by omega))]
          exact ih
        · rw [amin_st hok ha hc2] at ih
          rw [if_pos (nI_le (by omega) (by omega))]
          exact ih
    · have hok : isZ prg b = false := by simp [isZ, hv]
      rw [amin_no hok] at ih
      rw [if_neg (fun e => hv (nI_inj (by omega) (by omega) e))]
      exact ih
theorem X_leastWornFree (hK : 60 < K) (hX : RXP nb sp sec val ser kin era prg new nxt opn ops fus ent ese eva eso u) (hW : WfP nb c sec ser kin era prg new nxt opn) : fX1_leastWornFree (xN nb) K u = some (cO (amin (isZ prg) era nb), u) := by
  have h12 := hW.1.2.1
  unfold fX1_leastWornFree
  rw [zn0]
  exact X_lw_loop hX hW nb K 0 (by omega) (by omega)
end
