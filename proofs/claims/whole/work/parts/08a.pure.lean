/-! ===== numbers ===== -/
theorem zn0 : zI 0 = nI 0 := by decide
theorem zn1 : zI 1 = nI 1 := by decide
theorem zn2 : zI 2 = nI 2 := by decide
theorem zn3 : zI 3 = nI 3 := by decide
theorem zn4 : zI 4 = nI 4 := by decide
theorem zn100 : zI 100 = nI 100 := by decide
theorem zn1000 : zI 1000 = nI 1000 := by decide
theorem zn100000 : zI 100000 = nI 100000 := by decide
theorem on0 : (0 : Int32) = nI 0 := by decide
def cO (o : Option Nat) : Int32 := match o with
  | none => zI (-1)
  | some k => nI k
theorem nI_nem {k : Nat} (h : k < 2 ^ 31) : ¬ nI k = zI (-1) := by
  intro e
  have h1 := congrArg Int32.toInt e
  rw [nI_toInt h] at h1
  have h2 : (zI (-1)).toInt = -1 := by decide
  omega
theorem cO_sne {k : Nat} (h : k < 2 ^ 31) : ¬ cO (some k) = zI (-1) := nI_nem h
theorem nI_inj {a b : Nat} (ha : a < 2 ^ 31) (hb : b < 2 ^ 31) (h : nI a = nI b) : a = b := (nI_eq ha hb).mp h
theorem cO_inj {a b : Option Nat} (ha : ∀ k, a = some k → k < 2 ^ 31) (hb : ∀ k, b = some k → k < 2 ^ 31) (h : cO a = cO b) : a = b := by
  cases a with
  | none =>
    cases b with
    | none => rfl
    | some k => exact absurd h.symm (nI_nem (hb k rfl))
  | some j =>
    cases b with
    | none => exact absurd h (nI_nem (ha j rfl))
    | some k => rw [nI_inj (ha j rfl) (hb k rfl) h]
theorem cO_some {o : Option Nat} {p : Nat} (ho : ∀ k, o = some k → k < 2 ^ 31) (hp : p < 2 ^ 31) : cO o = nI p ↔ o = some p :=
  ⟨fun h => cO_inj (b := some p) ho (fun k e => by cases e; exact hp) h, fun h => by rw [h]; rfl⟩
theorem cO_m1 {o : Option Nat} (ho : ∀ k, o = some k → k < 2 ^ 31) : cO o = zI (-1) ↔ o = none :=
  ⟨fun h => cO_inj (b := none) ho (fun k e => by cases e) h, fun h => by rw [h]; rfl⟩
theorem sm_nI {α : Type} {a b : Nat} {u : α} (h : a = b) : some (nI a, u) = some (nI b, u) := by rw [h]
theorem bsome {α β : Type} {x : α} {f : α → Option β} : (some x).bind f = f x := rfl
theorem vg_in {α : Type} {i n : Nat} {x : Option α} (h : i < n) (hn : n < 2 ^ 31) : vg (nI i) n x = x := by
  unfold vg
  rw [if_neg (nI_in h hn)]
theorem vb_0 {α : Type} {x : Option α} : vb (zI 0) x = x := by
  unfold vb
  rw [if_pos (Or.inl (by decide))]
theorem vb_1 {α : Type} {x : Option α} : vb (zI 1) x = x := by
  unfold vb
  rw [if_pos (Or.inr (by decide))]
theorem xN3 (b : Nat) : xN b 3 = 4 * b := rfl
theorem xN4 (b : Nat) : xN b 4 = 4 * b := rfl
theorem xN5 (b : Nat) : xN b 5 = 4 * b := rfl
theorem xN6 (b : Nat) : xN b 6 = 4 * b := rfl
theorem xN7 (b : Nat) : xN b 7 = b := rfl
theorem xN8 (b : Nat) : xN b 8 = b := rfl
theorem xN9 (b : Nat) : xN b 9 = 4 * (b - 3) := rfl
theorem xN10 (b : Nat) : xN b 10 = 3 := rfl
theorem xN11 (b : Nat) : xN b 11 = 3 := rfl
theorem xN12 (b : Nat) : xN b 12 = 3 := rfl
theorem mN1 : mN 1 = 48 := rfl
theorem mN2 : mN 2 = 48 := rfl
theorem mN3 : mN 3 = 48 := rfl
theorem mN4 : mN 4 = 48 := rfl
theorem mN5 : mN 5 = 12 := rfl
theorem mN6 : mN 6 = 3 := rfl
theorem mN7 : mN 7 = 3 := rfl
theorem mN8 : mN 8 = 3 := rfl
/-! ===== counting and choosing ===== -/
def cntB (f : Nat → Bool) : Nat → Nat → Nat
  | _, 0 => 0
  | b, r + 1 => (if f b then 1 else 0) + cntB f (b + 1) r
theorem cntB_le (f : Nat → Bool) : ∀ r b, cntB f b r ≤ r
  | 0, _ => Nat.le_refl 0
  | r + 1, b => by
    have := cntB_le f r (b + 1)
    unfold cntB
    split <;> omega
theorem cntB_none (f : Nat → Bool) : ∀ r b, cntB f b r = 0 → ∀ i, b ≤ i → i < b + r → f i = false
  | 0, b, _, i, h1, h2 => by omega
  | r + 1, b, h, i, h1, h2 => by
    unfold cntB at h
    by_cases hb : f b = true
    · rw [if_pos hb] at h; omega
    · rw [if_neg hb] at h
      by_cases hi : i = b
      · subst hi; exact Bool.eq_false_iff.mpr hb
      · exact cntB_none f r (b + 1) (by omega) i (by omega) (by omega)
theorem cntB_pos (f : Nat → Bool) : ∀ r b i, b ≤ i → i < b + r → f i = true → 0 < cntB f b r
  | 0, b, i, h1, h2, _ => by omega
  | r + 1, b, i, h1, h2, h => by
    unfold cntB
    by_cases hi : i = b
    · subst hi; rw [if_pos h]; omega
    · have := cntB_pos f r (b + 1) i (by omega) (by omega) h
      omega
theorem cntB_one (f : Nat → Bool) : ∀ r b i j, cntB f b r < 2 → b ≤ i → i < b + r → b ≤ j → j < b + r → f i = true → f j = true → i = j
  | 0, b, i, j, _, h1, h2, _, _, _, _ => by omega
  | r + 1, b, i, j, h, h1, h2, h3, h4, hi, hj => by
    unfold cntB at h
    by_cases e1 : i = b
    · by_cases e2 : j = b
      · omega
      · subst e1
        rw [if_pos hi] at h
        have := cntB_pos f r (i + 1) j (by omega) (by omega) hj
        omega
    · by_cases e2 : j = b
      · subst e2
        rw [if_pos hj] at h
        have := cntB_pos f r (j + 1) i (by omega) (by omega) hi
        omega
      · exact cntB_one f r (b + 1) i j (by omega) (by omega) (by omega) (by omega) (by omega) hi hj
theorem cntB_two (f : Nat → Bool) : ∀ r b, 2 ≤ cntB f b r → ∀ k, ∃ i, b ≤ i ∧ i < b + r ∧ f i = true ∧ i ≠ k
  | 0, b, h, _ => by unfold cntB at h; omega
  | r + 1, b, h, k => by
    unfold cntB at h
    by_cases hb : f b = true
    · by_cases hk : b = k
      · rw [if_pos hb] at h
        have hc : ¬ cntB f (b + 1) r = 0 := by omega
        have : ∃ i, b + 1 ≤ i ∧ i < b + 1 + r ∧ f i = true := by
          refine Classical.byContradiction fun hn => hc ?_
          have hall : ∀ i, b + 1 ≤ i → i < b + 1 + r → f i = false := fun i h1 h2 => by
            cases hf : f i with
            | false => rfl
            | true => exact absurd ⟨i, h1, h2, hf⟩ hn
          clear h hc hn hk hb
          generalize b + 1 = a at hall ⊢
          induction r generalizing a with
          | zero => rfl
          | succ r ih =>
            unfold cntB
            rw [if_neg (by rw [hall a (by omega) (by omega)]; decide), ih (a + 1) (fun i h1 h2 => hall i (by omega) (by omega))]
        obtain ⟨i, h1, h2, h3⟩ := this
        exact ⟨i, by omega, by omega, h3, by omega⟩
      · exact ⟨b, by omega, by omega, hb, hk⟩
    · rw [if_neg hb] at h
      obtain ⟨i, h1, h2, h3, h4⟩ := cntB_two f r (b + 1) (by omega) k
      exact ⟨i, by omega, by omega, h3, h4⟩
def amin (ok : Nat → Bool) (cost : Nat → Nat) : Nat → Option Nat
  | 0 => none
  | n + 1 => if ok n then (match amin ok cost n with
    | none => some n
    | some j => if cost n < cost j then some n else some j) else amin ok cost n
theorem amin_no {ok : Nat → Bool} {cost : Nat → Nat} {n : Nat} (h : ok n = false) : amin ok cost (n + 1) = amin ok cost n := by
  rw [amin, if_neg (by rw [h]; decide)]
theorem amin_new {ok : Nat → Bool} {cost : Nat → Nat} {n : Nat} (h : ok n = true) (ha : amin ok cost n = none) : amin ok cost (n + 1) = some n := by
  rw [amin, if_pos h, ha]
theorem amin_is {ok : Nat → Bool} {cost : Nat → Nat} {n j : Nat} (h : ok n = true) (ha : amin ok cost n = some j) (hc : cost n < cost j) : amin ok cost (n + 1) = some n := by
  rw [amin, if_pos h, ha]
  exact if_pos hc
theorem amin_st {ok : Nat → Bool} {cost : Nat → Nat} {n j : Nat} (h : ok n = true) (ha : amin ok cost n = some j) (hc : ¬ cost n < cost j) : amin ok cost (n + 1) = some j := by
  rw [amin, if_pos h, ha]
  exact if_neg hc
theorem amin_none (ok : Nat → Bool) (cost : Nat → Nat) : ∀ n, amin ok cost n = none → ∀ b, b < n → ok b = false
  | 0, _, b, h => by omega
  | n + 1, h, b, hb => by
    unfold amin at h
    by_cases ho : ok n = true
    · rw [if_pos ho] at h
      cases ha : amin ok cost n with
      | none => rw [ha] at h; cases h
      | some j =>
        rw [ha] at h
        dsimp only at h
        split at h <;> cases h
    · rw [if_neg ho] at h
      by_cases e : b = n
      · subst e; exact Bool.eq_false_iff.mpr ho
      · exact amin_none ok cost n h b (by omega)
theorem amin_some (ok : Nat → Bool) (cost : Nat → Nat) : ∀ n j, amin ok cost n = some j → j < n ∧ ok j = true ∧ ∀ b, b < n → ok b = true → cost j ≤ cost b
  | 0, j, h => by unfold amin at h; cases h
  | n + 1, j, h => by
    unfold amin at h
    by_cases ho : ok n = true
    · rw [if_pos ho] at h
      cases ha : amin ok cost n with
      | none =>
        rw [ha] at h
        cases h
        refine ⟨by omega, ho, fun b hb hob => ?_⟩
        by_cases e : b = n
        · subst e; exact Nat.le_refl _
        · rw [amin_none ok cost n ha b (by omega)] at hob; cases hob
      | some i =>
        rw [ha] at h
        dsimp only at h
        obtain ⟨h1, h2, h3⟩ := amin_some ok cost n i ha
        by_cases hc : cost n < cost i
        · rw [if_pos hc] at h
          cases h
          refine ⟨by omega, ho, fun b hb hob => ?_⟩
          by_cases e : b = n
          · subst e; exact Nat.le_refl _
          · have := h3 b (by omega) hob
            omega
        · rw [if_neg hc] at h
          cases h
          refine ⟨by omega, h2, fun b hb hob => ?_⟩
          by_cases e : b = n
          · subst e; omega
          · exact h3 b (by omega) hob
    · rw [if_neg ho] at h
      obtain ⟨h1, h2, h3⟩ := amin_some ok cost n j h
      refine ⟨by omega, h2, fun b hb hob => ?_⟩
      by_cases e : b = n
      · subst e; exact absurd hob ho
      · exact h3 b (by omega) hob
theorem amin_ex {ok : Nat → Bool} {cost : Nat → Nat} {n b : Nat} (hb : b < n) (ho : ok b = true) : ∃ j, amin ok cost n = some j ∧ j < n ∧ ok j = true ∧ cost j ≤ cost b := by
  cases h : amin ok cost n with
  | none => rw [amin_none ok cost n h b hb] at ho; cases ho
  | some j =>
    obtain ⟨h1, h2, h3⟩ := amin_some ok cost n j h
    exact ⟨j, rfl, h1, h2, h3 b hb ho⟩
theorem amin_congr {ok ok' : Nat → Bool} {cost cost' : Nat → Nat} : ∀ n, (∀ b, b < n → ok b = ok' b) → (∀ b, b < n → cost b = cost' b) → amin ok cost n = amin ok' cost' n
  | 0, _, _ => rfl
  | n + 1, h1, h2 => by
    have ih := amin_congr n (fun b hb => h1 b (by omega)) (fun b hb => h2 b (by omega))
    unfold amin
    rw [ih, h1 n (by omega)]
    cases ha : amin ok' cost' n with
    | none => rfl
    | some j =>
      have hj := (amin_some ok' cost' n j ha).1
      try dsimp only
      rw [h2 n (by omega), h2 j (by omega)]
/-- pigeons: a map without collisions from m places into k places has m ≤ k -/
theorem php : ∀ (k m : Nat) (f : Nat → Nat), (∀ i, i < m → f i < k) → (∀ i j, i < m → j < m → f i = f j → i = j) → m ≤ k
  | 0, m, f, h, _ => by
    rcases Nat.eq_zero_or_pos m with e | e
    · omega
    · exact absurd (h 0 e) (by omega)
  | k + 1, 0, f, _, _ => by omega
  | k + 1, m + 1, f, h, hj => by
    -- take out the image of m; move k into its place
    have := php k m (fun i => if f i = k then f m else f i) (fun i hi => by
      have h1 := h i (by omega)
      have h2 := h m (by omega)
      have h3 : f i = f m → i = m := hj i m (by omega) (by omega)
      try dsimp only
      split <;> omega) (fun i j hi hj2 he => by
      have a1 := hj i j (by omega) (by omega)
      have a2 := hj i m (by omega) (by omega)
      have a3 := hj j m (by omega) (by omega)
      try dsimp only at he
      split at he <;> split at he <;> omega)
    omega
