/-! ===== the state's own steps: a page is programmed, a block is erased ===== -/
def upN {α : Type} (f : Nat → α) (k : Nat) (x : α) : Nat → α := fun i => if i = k then x else f i
theorem upN_s {α : Type} {f : Nat → α} {k : Nat} {x : α} : upN f k x k = x := if_pos rfl
theorem upN_n {α : Type} {f : Nat → α} {k i : Nat} {x : α} (h : i ≠ k) : upN f k x i = f i := if_neg h
def erN (sec : Nat → Option Nat) (b : Nat) : Nat → Option Nat := fun i => if 4 * b ≤ i ∧ i < 4 * b + 4 then none else sec i
theorem erN_in {sec : Nat → Option Nat} {b i : Nat} (h : 4 * b ≤ i ∧ i < 4 * b + 4) : erN sec b i = none := if_pos h
theorem erN_out {sec : Nat → Option Nat} {b i : Nat} (h : ¬ (4 * b ≤ i ∧ i < 4 * b + 4)) : erN sec b i = sec i := if_neg h
theorem cntB_congr {f g : Nat → Bool} : ∀ r b, (∀ i, b ≤ i → i < b + r → f i = g i) → cntB f b r = cntB g b r
  | 0, _, _ => rfl
  | r + 1, b, h => by
    unfold cntB
    rw [h b (by omega) (by omega), cntB_congr r (b + 1) (fun i h1 h2 => h i (by omega) (by omega))]
theorem cntB_zero {f : Nat → Bool} : ∀ r b, (∀ i, b ≤ i → i < b + r → f i = false) → cntB f b r = 0
  | 0, _, _ => rfl
  | r + 1, b, h => by
    unfold cntB
    rw [if_neg (by rw [h b (by omega) (by omega)]; decide), cntB_zero r (b + 1) (fun i h1 h2 => h i (by omega) (by omega))]
theorem cntB_split {f : Nat → Bool} : ∀ k r b, cntB f b (k + r) = cntB f b k + cntB f (b + k) r
  | 0, r, b => by simp [cntB]
  | k + 1, r, b => by
    rw [show k + 1 + r = (k + r) + 1 from by omega]
    show (if f b then 1 else 0) + cntB f (b + 1) (k + r) = ((if f b then 1 else 0) + cntB f (b + 1) k) + cntB f (b + (k + 1)) r
    rw [cntB_split k r (b + 1), show b + 1 + k = b + (k + 1) from by omega]
    omega
section
variable {nb sp c K : Nat} {sec : Nat → Option Nat} {val : Nat → Int32} {ser : Nat → Nat} {kin : Nat → Int32} {era prg : Nat → Nat} {new : Nat → Option Nat} {nxt : Nat} {opn : Option Nat} {ops : Int32} {fus ent : Nat} {ese : Nat → Nat} {eva eso : Nat → Int32} {u : XU} {v : MU}
theorem pg_free (hW : WfP nb c sec ser kin era prg new nxt opn) {b : Nat} (hb : b < nb) (hp : prg b < 4) : sec (4 * b + prg b) = none := by
  have := (hW.2.2.1 b hb).2 (prg b) hp
  cases h : sec (4 * b + prg b) with
  | none => rfl
  | some s => rw [h] at this; exact absurd (this.mp (by simp)) (by omega)
theorem Wf_prog (hW : WfP nb c sec ser kin era prg new nxt opn) (hc9 : c < 90000) {b s : Nat} {k : Int32} (hb : b < nb) (hp : prg b < 4) (hs : s < 4 * (nb - 3)) (hk : k ≠ 0) : WfP nb (c + 1) (upN sec (4 * b + prg b) (some s)) (upN ser (4 * b + prg b) nxt) (upN kin (4 * b + prg b) k) era (upN prg b (prg b + 1)) (upN new s (some (4 * b + prg b))) (nxt + 1) opn := by
  have hfree := pg_free hW hb hp
  obtain ⟨⟨h5, h12, hc⟩, ⟨hnx, her⟩, hpg, hs4, hds, hnw, ho⟩ := hW
  generalize hP : 4 * b + prg b = P at hfree ⊢
  refine ⟨⟨h5, h12, by omega⟩, ⟨by omega, fun b' hb' => by have := her b' hb'; omega⟩, fun b' hb' => ?_, fun p s' hp' hs' => ?_, fun p p' s1 s2 h1 h2 e1 e2 e3 => ?_, fun s' hs' => ?_, ho⟩
  · by_cases e : b' = b
    · subst e
      rw [upN_s]
      refine ⟨by omega, fun q hq => ?_⟩
      by_cases e2 : 4 * b' + q = P
      · rw [e2, upN_s]
        exact ⟨fun _ => by omega, fun _ => by simp⟩
      · rw [upN_n e2]
        have := (hpg b' hb').2 q hq
        rw [this]
        omega
    · rw [upN_n e]
      refine ⟨(hpg b' hb').1, fun q hq => ?_⟩
      rw [upN_n (by omega)]
      exact (hpg b' hb').2 q hq
  · by_cases e : p = P
    · subst e
      rw [upN_s] at hs'
      cases hs'
      rw [upN_s, upN_s]
      exact ⟨hs, by omega, hk⟩
    · rw [upN_n e] at hs'
      rw [upN_n e, upN_n e]
      obtain ⟨a1, a2, a3⟩ := hs4 p s' hp' hs'
      exact ⟨a1, by omega, a3⟩
  · by_cases f1 : p = P
    · by_cases f2 : p' = P
      · rw [f1, f2]
      · rw [upN_n f2] at e2 e3
        rw [f1, upN_s] at e3
        have := (hs4 p' s2 h2 e2).2.1
        omega
    · rw [upN_n f1] at e1 e3
      by_cases f2 : p' = P
      · rw [f2, upN_s] at e3
        have := (hs4 p s1 h1 e1).2.1
        omega
      · rw [upN_n f2] at e2 e3
        exact hds p p' s1 s2 h1 h2 e1 e2 e3
  · by_cases e : s' = s
    · subst e
      refine Or.inr ⟨P, upN_s, by omega, upN_s, fun p' h1 h2 => ?_⟩
      rw [upN_s]
      by_cases f : p' = P
      · rw [f, upN_s]; omega
      · rw [upN_n f] at h2 ⊢
        have := (hs4 p' s' h1 h2).2.1
        omega
    · rw [upN_n e]
      rcases hnw s' hs' with ⟨a1, a2⟩ | ⟨j, a1, a2, a3, a4⟩
      · refine Or.inl ⟨a1, fun p' h1 h2 => ?_⟩
        by_cases f : p' = P
        · rw [f, upN_s] at h2; cases h2; exact e rfl
        · rw [upN_n f] at h2; exact a2 p' h1 h2
      · have hj : j ≠ P := fun f => by rw [f, hfree] at a3; cases a3
        refine Or.inr ⟨j, a1, a2, by rw [upN_n hj]; exact a3, fun p' h1 h2 => ?_⟩
        rw [upN_n hj]
        by_cases f : p' = P
        · rw [f, upN_s] at h2; cases h2; exact absurd rfl e
        · rw [upN_n f] at h2 ⊢
          exact a4 p' h1 h2
theorem Wf_erase (hW : WfP nb c sec ser kin era prg new nxt opn) (hc9 : c < 90000) {b : Nat} (hb : b < nb) (hno : ∀ q, q < 4 → vld sec new (4 * b + q) = false) : WfP nb (c + 1) (erN sec b) ser kin (upN era b (era b + 1)) (upN prg b 0) new nxt opn := by
  obtain ⟨⟨h5, h12, hc⟩, ⟨hnx, her⟩, hpg, hs4, hds, hnw, ho⟩ := hW
  have out : ∀ {p s : Nat}, erN sec b p = some s → ¬ (4 * b ≤ p ∧ p < 4 * b + 4) ∧ sec p = some s := fun {p s} h => by
    by_cases hin : 4 * b ≤ p ∧ p < 4 * b + 4
    · rw [erN_in hin] at h; cases h
    · rw [erN_out hin] at h; exact ⟨hin, h⟩
  refine ⟨⟨h5, h12, by omega⟩, ⟨by omega, fun b' hb' => ?_⟩, fun b' hb' => ?_, fun p s' hp' hs' => hs4 p s' hp' (out hs').2, fun p p' s1 s2 h1 h2 e1 e2 e3 => hds p p' s1 s2 h1 h2 (out e1).2 (out e2).2 e3, fun s' hs' => ?_, ho⟩
  · have := her b' hb'
    by_cases e : b' = b
    · rw [e, upN_s]; rw [e] at this; omega
    · rw [upN_n e]; omega
  · by_cases e : b' = b
    · subst e
      rw [upN_s]
      refine ⟨by omega, fun q hq => ?_⟩
      rw [erN_in ⟨by omega, by omega⟩]
      exact ⟨fun h => absurd rfl h, fun h => by omega⟩
    · rw [upN_n e]
      refine ⟨(hpg b' hb').1, fun q hq => ?_⟩
      rw [erN_out (by omega)]
      exact (hpg b' hb').2 q hq
  · rcases hnw s' hs' with ⟨a1, a2⟩ | ⟨j, a1, a2, a3, a4⟩
    · exact Or.inl ⟨a1, fun p' h1 h2 => a2 p' h1 (out h2).2⟩
    · have hj : ¬ (4 * b ≤ j ∧ j < 4 * b + 4) := fun hin => by
        have := hno (j - 4 * b) (by omega)
        rw [show 4 * b + (j - 4 * b) = j from by omega] at this
        simp [vld, a3, a1] at this
      exact Or.inr ⟨j, a1, a2, by rw [erN_out hj]; exact a3, fun p' h1 h2 => a4 p' h1 (out h2).2⟩
/-- a valid page of block w is copied into block b: in w only this page's validity changes -/
theorem vld_prog (hW : WfP nb c sec ser kin era prg new nxt opn) {b w p p' s : Nat} (hb : b < nb) (hw : w < nb) (hbw : b ≠ w) (hp4 : prg b < 4) (hp : 4 * w ≤ p ∧ p < 4 * w + 4) (hp' : 4 * w ≤ p' ∧ p' < 4 * w + 4) (hs : sec p = some s) (hn : new s = some p) : vld (upN sec (4 * b + prg b) (some s)) (upN new s (some (4 * b + prg b))) p' = if p' = p then false else vld sec new p' := by
  have e1 : p' ≠ 4 * b + prg b := by omega
  unfold vld
  rw [upN_n e1]
  cases h : sec p' with
  | none =>
    dsimp only
    by_cases f : p' = p
    · rw [if_pos f]
    · rw [if_neg f]
  | some s' =>
    dsimp only
    by_cases e : s' = s
    · subst e
      rw [upN_s]
      have h1 : ¬ some (4 * b + prg b) = some p' := fun e => e1 (Option.some.inj e).symm
      by_cases f : p' = p
      · rw [if_pos f]; exact decide_eq_false h1
      · rw [if_neg f, hn]
        have h2 : ¬ some p = some p' := fun e => f (Option.some.inj e).symm
        rw [decide_eq_false h1, decide_eq_false h2]
    · rw [upN_n e]
      by_cases f : p' = p
      · subst f; rw [hs] at h; cases h; exact absurd rfl e
      · rw [if_neg f]
theorem vld_some {p : Nat} (h : vld sec new p = true) : ∃ s, sec p = some s ∧ new s = some p := by
  unfold vld at h
  cases hs : sec p with
  | none => rw [hs] at h; cases h
  | some s => rw [hs] at h; exact ⟨s, rfl, of_decide_eq_true h⟩
end
