/-! ===== class and reference take these steps ===== -/
theorem nI_ge' {n : Nat} (h : n < 2 ^ 31) : ¬ nI n < nI 0 := nI_nlt (Nat.zero_le n) h
theorem nI_page4 (w : Nat) : nI 4 * nI w + nI 4 = nI (4 * w + 4) := by rw [pk_mul, nI_add]
section
variable {nb sp c K : Nat} {sec : Nat → Option Nat} {val : Nat → Int32} {ser : Nat → Nat} {kin : Nat → Int32} {era prg : Nat → Nat} {new : Nat → Option Nat} {nxt : Nat} {opn : Option Nat} {ops : Int32} {fus ent : Nat} {ese : Nat → Nat} {eva eso : Nat → Int32} {u : XU} {v : MU}
theorem X_beg1 (hX : RXP nb sp sec val ser kin era prg new nxt opn ops fus ent ese eva eso u) (hf : fus = 1) : fX1_beginOperation (xN nb) K u = some (zI 0, xu_s_fus u (nI 0)) ∧ RXP nb sp sec val ser kin era prg new nxt opn ops 0 ent ese eva eso (xu_s_fus u (nI 0)) := by
  obtain ⟨⟨h1, h2, h3, h4, h5, h6, h7⟩, hp, hb, hn, he⟩ := hX
  subst hf
  refine ⟨?_, ⟨h1, h2, h3, h4, h5, rfl, h7⟩, hp, hb, hn, he⟩
  unfold fX1_beginOperation
  rw [h6, if_pos (by rw [zn1]), if_neg (by decide), zn1, pk_sub (Nat.le_refl 1)]
theorem X_beg2 (hX : RXP nb sp sec val ser kin era prg new nxt opn ops fus ent ese eva eso u) (hf : fus ≠ 1) (hf2 : fus ≤ 1000) : ∃ u', fX1_beginOperation (xN nb) K u = some (zI 1, u') ∧ RXP nb sp sec val ser kin era prg new nxt opn (ops + zI 1) (fus - 1) ent ese eva eso u' := by
  obtain ⟨⟨h1, h2, h3, h4, h5, h6, h7⟩, hp, hb, hn, he⟩ := hX
  unfold fX1_beginOperation
  rw [h6, if_neg (fun e => hf (nI_inj (by omega) (by omega) (by rw [e, zn1]))), on0, zn1]
  by_cases h0 : fus = 0
  · subst h0
    refine ⟨xu_s_ops u (xu_ops u + nI 1), ?_, ⟨h1, h2, h3, h4, (by rw [← h5] : xu_ops u + nI 1 = ops + nI 1), h6, h7⟩, hp, hb, hn, he⟩
    rw [if_pos (nI_le (Nat.le_refl 0) (by omega))]
  · refine ⟨xu_s_ops (xu_s_fus u (nI (fus - 1))) (xu_ops u + nI 1), ?_, ⟨h1, h2, h3, h4, (by rw [← h5] : xu_ops u + nI 1 = ops + nI 1), rfl, h7⟩, hp, hb, hn, he⟩
    rw [if_neg (nI_ge (by omega) (by omega)), pk_sub (by omega)]
theorem M_op1 (hM : RMP nb sp sec val ser kin era prg new nxt opn ops fus ent ese eva eso v) (hf : fus = 1) : ∃ v', fX3_operates mN K v = some (zI 0, v') ∧ RMP nb sp sec val ser kin era prg new nxt opn ops 0 ent ese eva eso v' := by
  obtain ⟨⟨h1, h2, h3, h4, h5, h6, h7⟩, hp, hb, he⟩ := hM
  subst hf
  refine ⟨mu_s_gon (mu_s_fus v (zI 0)) (zI 1), ?_, ⟨h1, h2, h3, h4, h5, zn0, h7⟩, hp, hb, he⟩
  unfold fX3_operates
  rw [h6, if_pos (by rw [zn1])]
theorem M_op2 (hM : RMP nb sp sec val ser kin era prg new nxt opn ops fus ent ese eva eso v) (hf : fus ≠ 1) (hf2 : fus ≤ 1000) : ∃ v', fX3_operates mN K v = some (zI 1, v') ∧ RMP nb sp sec val ser kin era prg new nxt opn (ops + zI 1) (fus - 1) ent ese eva eso v' := by
  obtain ⟨⟨h1, h2, h3, h4, h5, h6, h7⟩, hp, hb, he⟩ := hM
  unfold fX3_operates
  rw [h6, if_neg (fun e => hf (nI_inj (by omega) (by omega) (by rw [e, zn1]))), on0]
  by_cases h0 : fus = 0
  · subst h0
    refine ⟨mu_s_ops (mu_s_fus v (zI 0)) (mu_ops v + zI 1), ?_, ⟨h1, h2, h3, h4, by rw [← h5], zn0, h7⟩, hp, hb, he⟩
    rw [if_pos (nI_le (Nat.le_refl 0) (by omega))]
  · refine ⟨mu_s_ops (mu_s_fus v (nI (fus - 1))) (mu_ops v + zI 1), ?_, ⟨h1, h2, h3, h4, by rw [← h5], rfl, h7⟩, hp, hb, he⟩
    rw [if_neg (nI_ge (by omega) (by omega)), zn1, pk_sub (by omega)]
theorem X_hasRoom (hX : RXP nb sp sec val ser kin era prg new nxt opn ops fus ent ese eva eso u) (hW : WfP nb c sec ser kin era prg new nxt opn) {b : Nat} (hb : b < nb) : fX1_hasRoom (xN nb) K (nI b) u = some (zb (decide (prg b < 4)), u) := by
  have h12 := hW.1.2.1
  have h4 := (hW.2.2.1 b hb).1
  unfold fX1_hasRoom
  rw [on0, if_neg (nI_ge' (by omega)), hX.1.2.2.1, if_neg (nI_ge hb (by omega)), xN7, vg_in hb (by omega), nI_clamp (by omega), (hX.2.2.1 b hb).1, zn4]
  by_cases h : prg b < 4
  · rw [if_neg (nI_ge h (by omega)), decide_eq_true h]; rfl
  · rw [if_pos (nI_le (by omega) (by omega)), decide_eq_false h]; rfl
theorem X_prog1 (hX : RXP nb sp sec val ser kin era prg new nxt opn ops fus ent ese eva eso u) (hW : WfP nb c sec ser kin era prg new nxt opn) {b : Nat} (hb : b < nb) (hp : prg b < 4) (s x k : Int32) (hf : fus = 1) : ∃ u', fX1_program (xN nb) K (nI b) s x k u = some (zI 0, u') ∧ RXP nb sp sec val ser kin era prg new nxt opn ops 0 ent ese eva eso u' := by
  obtain ⟨e1, e2⟩ := X_beg1 (K := K) hX hf
  refine ⟨_, ?_, e2⟩
  unfold fX1_program
  rw [X_hasRoom hX hW hb, decide_eq_true hp, bsome]
  show (if zb true = 0 then _ else (fX1_beginOperation (xN nb) K u).bind _) = _
  rw [if_neg (by decide), e1, bsome]
  rfl
theorem X_prog2 (hX : RXP nb sp sec val ser kin era prg new nxt opn ops fus ent ese eva eso u) (hW : WfP nb c sec ser kin era prg new nxt opn) {b s : Nat} (hb : b < nb) (hp : prg b < 4) (hs : s < 4 * (nb - 3)) (x k : Int32) (hf : fus ≠ 1) (hf2 : fus ≤ 1000) : ∃ u', fX1_program (xN nb) K (nI b) (nI s) x k u = some (zI 1, u') ∧ RXP nb sp (upN sec (4 * b + prg b) (some s)) (upN val (4 * b + prg b) x) (upN ser (4 * b + prg b) nxt) (upN kin (4 * b + prg b) k) era (upN prg b (prg b + 1)) (upN new s (some (4 * b + prg b))) (nxt + 1) opn (ops + zI 1) (fus - 1) ent ese eva eso u' := by
  obtain ⟨u1, e1, hX1⟩ := X_beg2 (K := K) hX hf hf2
  have h12 := hW.1.2.1
  refine ⟨xu_s_new (xu_s_nxt (xu_s_ser (xu_s_kin (xu_s_val (xu_s_own (xu_s_prg u1 (upd (xu_prg u1) b (nI (prg b + 1)))) (upd (xu_own u1) (4 * b + prg b) (nI s))) (upd (xu_val u1) (4 * b + prg b) x)) (upd (xu_kin u1) (4 * b + prg b) k)) (upd (xu_ser u1) (4 * b + prg b) (xu_nxt u1))) (xu_nxt u1 + zI 1)) (upd (xu_new u1) s (nI (4 * b + prg b))), ?_, ?_⟩
  · unfold fX1_program
    rw [X_hasRoom hX hW hb, decide_eq_true hp, bsome]
    show (if zb true = 0 then _ else (fX1_beginOperation (xN nb) K u).bind _) = _
    rw [if_neg (by decide), e1, bsome]
    show (if zI 1 = 0 then _ else _) = _
    rw [if_neg (by decide)]
    rw [xN7, vg_in hb (by omega), vg_in hb (by omega), vg_in hb (by omega), nI_clamp (by omega), (hX1.2.2.1 b hb).1, nI_page, xN3, vg_in (by omega) (by omega), xN4, vg_in (by omega) (by omega), xN5, vg_in (by omega) (by omega), xN6, vg_in (by omega) (by omega), xN9, vg_in hs (by omega), nI_clamp (by omega), nI_clamp (by omega), zn1, nI_add]
  · obtain ⟨⟨h1, h2, h3, h4, h5, h6, h7⟩, hpp, hbb, hn, he⟩ := hX1
    generalize hP : 4 * b + prg b = P
    refine ⟨⟨h1, h2, h3, by show xu_nxt u1 + zI 1 = _; rw [h4, zn1, nI_add], h5, h6, h7⟩, fun p hpl => ?_, fun b' hb' => ?_, fun s' hs' => ?_, he⟩
    · show (upN sec P (some s) p = none → upd (xu_kin u1) P k p = 0) ∧ ∀ s', upN sec P (some s) p = some s' → upd (xu_kin u1) P k p = upN kin P k p ∧ upd (xu_own u1) P (nI s) p = nI s' ∧ upd (xu_val u1) P x p = upN val P x p ∧ upd (xu_ser u1) P (xu_nxt u1) p = nI (upN ser P nxt p)
      by_cases e : p = P
      · subst e
        rw [upN_s, upN_s, upN_s, upN_s, pk_us, pk_us, pk_us, pk_us]
        exact ⟨(fun h => by cases h), fun s' h => by cases h; exact ⟨rfl, rfl, rfl, h4⟩⟩
      · rw [upN_n e, upN_n e, upN_n e, upN_n e, pk_un e, pk_un e, pk_un e, pk_un e]
        exact hpp p hpl
    · show upd (xu_prg u1) b (nI (prg b + 1)) b' = nI (upN prg b (prg b + 1) b') ∧ _
      by_cases e : b' = b
      · subst e
        rw [upN_s, pk_us]
        exact ⟨rfl, (hbb b' hb').2⟩
      · rw [upN_n e, pk_un e]
        exact hbb b' hb'
    · show upd (xu_new u1) s (nI P) s' = cO (upN new s (some P) s')
      by_cases e : s' = s
      · subst e
        rw [upN_s, pk_us]
        rfl
      · rw [upN_n e, pk_un e]
        exact hn s' hs'
theorem X_er_loop (hX : RXP nb sp sec val ser kin era prg new nxt opn ops fus ent ese eva eso u) (hW : WfP nb c sec ser kin era prg new nxt opn) {w : Nat} (hw : w < nb) : ∀ r N q u, q + r = 4 → r < N → ((∀ p, p < 4 * nb → ¬ (4 * w ≤ p ∧ p < 4 * w + q) → (sec p = none → xu_kin u p = 0) ∧ ∀ s, sec p = some s → xu_kin u p = kin p ∧ xu_own u p = nI s ∧ xu_val u p = val p ∧ xu_ser u p = nI (ser p)) ∧ (∀ p, 4 * w ≤ p ∧ p < 4 * w + q → xu_kin u p = 0) ∧ (xu_spr u = nI sp ∧ xu_opn u = cO opn ∧ xu_blk u = nI nb ∧ xu_nxt u = nI nxt ∧ xu_ops u = ops ∧ xu_fus u = nI fus ∧ xu_cnt u = nI ent) ∧ (∀ b, b < nb → xu_prg u b = nI (prg b) ∧ xu_wea u b = nI (era b)) ∧ (∀ s, s < 4 * (nb - 3) → xu_new u s = cO (new s)) ∧ (∀ k, k < ent → xu_bse u k = nI (ese k) ∧ xu_bva u k = eva k ∧ xu_bki u k = eso k)) → ∃ u', fX1_erase_11 (xN nb) K N (nI w) (nI q) u = some (zI 1, u') ∧ RXP nb sp (erN sec w) val ser kin (upN era w (era w + 1)) (upN prg w 0) new nxt opn ops fus ent ese eva eso u' := by
  have h12 := hW.1.2.1
  have her := hW.2.1.2 w hw
  have hc := hW.1.2.2
  intro r
  induction r with
  | zero =>
    intro N q u hq hN ⟨g1, g2, g3, g4, g5, g6⟩
    obtain ⟨N', rfl⟩ : ∃ N', N = N' + 1 := ⟨N - 1, by omega⟩
    have eq4 : q = 4 := by omega
    subst eq4
    refine ⟨xu_s_wea (xu_s_prg u (upd (xu_prg u) w (zI 0))) (upd (xu_wea u) w (nI (era w + 1))), ?_, g3, fun p hp => ?_, fun b' hb' => ?_, g5, g6⟩
    · rw [fX1_erase_11, zn4, if_pos (nI_le (Nat.le_refl 4) (by omega)), xN7, vg_in hw (by omega), xN8, vg_in hw (by omega), vg_in hw (by omega), nI_clamp (by omega), (g4 w hw).2, zn1, nI_add]
    · show (erN sec w p = none → xu_kin u p = 0) ∧ ∀ s, erN sec w p = some s → xu_kin u p = kin p ∧ xu_own u p = nI s ∧ xu_val u p = val p ∧ xu_ser u p = nI (ser p)
      by_cases hin : 4 * w ≤ p ∧ p < 4 * w + 4
      · rw [erN_in hin]
        exact ⟨fun _ => g2 p hin, fun s h => by cases h⟩
      · rw [erN_out hin]
        exact g1 p hp hin
    · show upd (xu_prg u) w (zI 0) b' = nI (upN prg w 0 b') ∧ upd (xu_wea u) w (nI (era w + 1)) b' = nI (upN era w (era w + 1) b')
      by_cases e : b' = w
      · subst e
        rw [upN_s, upN_s, pk_us, pk_us]
        exact ⟨zn0, rfl⟩
      · rw [upN_n e, upN_n e, pk_un e, pk_un e]
        exact g4 b' hb'
  | succ r ih =>
    intro N q u hq hN ⟨g1, g2, g3, g4, g5, g6⟩
    obtain ⟨N', rfl⟩ : ∃ N', N = N' + 1 := ⟨N - 1, by omega⟩
    rw [fX1_erase_11, if_neg (by rw [zn4]; exact nI_ge (by omega) (by omega)), nI_page, xN5, vg_in (by omega) (by omega), nI_clamp (by omega), zn1, nI_add]
    refine ih N' (q + 1) _ (by omega) (by omega) ⟨fun p hp hin => ?_, fun p hin => ?_, g3, g4, g5, g6⟩
    · show (sec p = none → upd (xu_kin u) (4 * w + q) (zI 0) p = 0) ∧ ∀ s, sec p = some s → upd (xu_kin u) (4 * w + q) (zI 0) p = kin p ∧ xu_own u p = nI s ∧ xu_val u p = val p ∧ xu_ser u p = nI (ser p)
      rw [pk_un (by omega)]
      exact g1 p hp (by omega)
    · show upd (xu_kin u) (4 * w + q) (zI 0) p = 0
      by_cases e : p = 4 * w + q
      · rw [e, pk_us]; decide
      · rw [pk_un e]; exact g2 p (by omega)
theorem X_erase1 (hX : RXP nb sp sec val ser kin era prg new nxt opn ops fus ent ese eva eso u) (w : Int32) (hf : fus = 1) : ∃ u', fX1_erase (xN nb) K w u = some (zI 0, u') ∧ RXP nb sp sec val ser kin era prg new nxt opn ops 0 ent ese eva eso u' := by
  obtain ⟨e1, e2⟩ := X_beg1 (K := K) hX hf
  refine ⟨_, ?_, e2⟩
  unfold fX1_erase
  rw [e1, bsome]
  rfl
theorem X_erase2 (hK : 60 < K) (hX : RXP nb sp sec val ser kin era prg new nxt opn ops fus ent ese eva eso u) (hW : WfP nb c sec ser kin era prg new nxt opn) {w : Nat} (hw : w < nb) (hf : fus ≠ 1) (hf2 : fus ≤ 1000) : ∃ u', fX1_erase (xN nb) K (nI w) u = some (zI 1, u') ∧ RXP nb sp (erN sec w) val ser kin (upN era w (era w + 1)) (upN prg w 0) new nxt opn (ops + zI 1) (fus - 1) ent ese eva eso u' := by
  obtain ⟨u1, e1, hX1⟩ := X_beg2 (K := K) hX hf hf2
  unfold fX1_erase
  rw [e1, bsome]
  show ∃ u', (if zI 1 = 0 then _ else _) = _ ∧ _
  rw [if_neg (by decide), zn0]
  exact X_er_loop hX1 hW hw 4 K 0 u1 (by omega) (by omega) ⟨fun p hp _ => hX1.2.1 p hp, fun p hin => by omega, hX1.1, hX1.2.2.1, hX1.2.2.2.1, hX1.2.2.2.2⟩
/-- the reference's put, once the page is found -/
def mPut (K : Nat) (x1 x2 x3 x4 : Int32) (v : MU) : Option (Int32 × MU) := (fX3_operates mN K v).bind fun z2 => (if z2.1 = 0 then (some (zI 0, z2.2)) else (vg x4 (mN 1) (vg x4 (mN 2) (vg x4 (mN 4) (vg x4 (mN 3) (some (zI 1, mu_s_nxt (mu_s_ser (mu_s_sor (mu_s_val (mu_s_sec z2.2 (upd (mu_sec z2.2) (x4).toNatClampNeg x1)) (upd (mu_val z2.2) (x4).toNatClampNeg x2)) (upd (mu_sor z2.2) (x4).toNatClampNeg x3)) (upd (mu_ser z2.2) (x4).toNatClampNeg (mu_nxt z2.2))) ((mu_nxt z2.2) + (zI 1)))))))))
theorem M_put_loop (hS : ∀ p, p < 4 * nb → mu_sec v p = cO (sec p)) (hW : WfP nb c sec ser kin era prg new nxt opn) {b : Nat} (ho : mu_opn v = nI b) (hb : b < nb) (hp : prg b < 4) (x1 x2 x3 : Int32) : ∀ r N q, q + r = prg b → r < N → fX3_put_8 mN K N x1 x2 x3 (nI (4 * b + q)) v = mPut K x1 x2 x3 (nI (4 * b + prg b)) v := by
  have h12 := hW.1.2.1
  have hpg := (hW.2.2.1 b hb).2
  intro r
  induction r with
  | zero =>
    intro N q hq hN
    obtain ⟨N', rfl⟩ : ∃ N', N = N' + 1 := ⟨N - 1, by omega⟩
    have e : q = prg b := by omega
    subst e
    rw [fX3_put_8, ho, zn3, nI_page']
    by_cases h3 : prg b = 3
    · rw [if_pos (nI_le (by omega) (by omega))]
      rfl
    · rw [if_neg (nI_ge (by omega) (by omega)), mN1, vg_in (by omega) (by omega), nI_clamp (by omega), hS _ (by omega), pg_free hW hb hp, if_pos cO_n]
      unfold mPut
      rw [nI_clamp (by omega)]
      rfl
  | succ r ih =>
    intro N q hq hN
    obtain ⟨N', rfl⟩ : ∃ N', N = N' + 1 := ⟨N - 1, by omega⟩
    rw [fX3_put_8, ho, zn3, nI_page', if_neg (nI_ge (by omega) (by omega)), mN1, vg_in (by omega) (by omega), nI_clamp (by omega), hS _ (by omega)]
    cases hs : sec (4 * b + q) with
    | none =>
      have := (hpg q (by omega)).mpr (by omega)
      exact absurd hs this
    | some s =>
      rw [if_neg (cO_sne (sec_lt hW (p := 4 * b + q) (by omega) s hs)), zn1, nI_add]
      exact ih N' (q + 1) (by omega) (by omega)
theorem M_put_is (hK : 60 < K) (hM : RMP nb sp sec val ser kin era prg new nxt opn ops fus ent ese eva eso v) (hW : WfP nb c sec ser kin era prg new nxt opn) {b : Nat} (ho : opn = some b) (hp : prg b < 4) (x1 x2 x3 : Int32) : fX3_put mN K x1 x2 x3 v = mPut K x1 x2 x3 (nI (4 * b + prg b)) v := by
  have hb := hW.2.2.2.2.2.2 b ho
  have ho' : mu_opn v = nI b := by rw [hM.1.2.1, ho]; rfl
  unfold fX3_put
  rw [ho', zn4, pk_mul]
  exact M_put_loop (fun p hp => (hM.2.1 p hp).1) hW ho' hb hp x1 x2 x3 (prg b) K 0 (by omega) (by omega)
theorem M_put1 (hK : 60 < K) (hM : RMP nb sp sec val ser kin era prg new nxt opn ops fus ent ese eva eso v) (hW : WfP nb c sec ser kin era prg new nxt opn) {b : Nat} (ho : opn = some b) (hp : prg b < 4) (x1 x2 x3 : Int32) (hf : fus = 1) : ∃ v', fX3_put mN K x1 x2 x3 v = some (zI 0, v') ∧ RMP nb sp sec val ser kin era prg new nxt opn ops 0 ent ese eva eso v' := by
  obtain ⟨v1, e1, e2⟩ := M_op1 (K := K) hM hf
  refine ⟨v1, ?_, e2⟩
  rw [M_put_is hK hM hW ho hp]
  unfold mPut
  rw [e1, bsome]
  rfl
theorem M_put2 (hK : 60 < K) (hM : RMP nb sp sec val ser kin era prg new nxt opn ops fus ent ese eva eso v) (hW : WfP nb c sec ser kin era prg new nxt opn) {b s : Nat} (ho : opn = some b) (hp : prg b < 4) (x k : Int32) (hf : fus ≠ 1) (hf2 : fus ≤ 1000) : ∃ v', fX3_put mN K (nI s) x k v = some (zI 1, v') ∧ RMP nb sp (upN sec (4 * b + prg b) (some s)) (upN val (4 * b + prg b) x) (upN ser (4 * b + prg b) nxt) (upN kin (4 * b + prg b) k) era (upN prg b (prg b + 1)) (upN new s (some (4 * b + prg b))) (nxt + 1) opn (ops + zI 1) (fus - 1) ent ese eva eso v' := by
  obtain ⟨v1, e1, hM1⟩ := M_op2 (K := K) hM hf hf2
  have h12 := hW.1.2.1
  have hb := hW.2.2.2.2.2.2 b ho
  refine ⟨mu_s_nxt (mu_s_ser (mu_s_sor (mu_s_val (mu_s_sec v1 (upd (mu_sec v1) (4 * b + prg b) (nI s))) (upd (mu_val v1) (4 * b + prg b) x)) (upd (mu_sor v1) (4 * b + prg b) k)) (upd (mu_ser v1) (4 * b + prg b) (mu_nxt v1))) (mu_nxt v1 + zI 1), ?_, ?_⟩
  · rw [M_put_is hK hM hW ho hp]
    unfold mPut
    rw [e1, bsome]
    show (if zI 1 = 0 then _ else _) = _
    rw [if_neg (by decide), mN1, vg_in (by omega) (by omega), mN2, vg_in (by omega) (by omega), mN4, vg_in (by omega) (by omega), mN3, vg_in (by omega) (by omega), nI_clamp (by omega)]
  · obtain ⟨⟨h1, h2, h3, h4, h5, h6, h7⟩, hpp, hbb, he⟩ := hM1
    generalize hP : 4 * b + prg b = P
    refine ⟨⟨h1, h2, h3, by show mu_nxt v1 + zI 1 = _; rw [h4, zn1, nI_add], h5, h6, h7⟩, fun p hpl => ?_, hbb, he⟩
    show upd (mu_sec v1) P (nI s) p = cO (upN sec P (some s) p) ∧ ∀ s', upN sec P (some s) p = some s' → upd (mu_val v1) P x p = upN val P x p ∧ upd (mu_ser v1) P (mu_nxt v1) p = nI (upN ser P nxt p) ∧ upd (mu_sor v1) P k p = upN kin P k p
    by_cases e : p = P
    · subst e
      rw [upN_s, upN_s, upN_s, upN_s, pk_us, pk_us, pk_us, pk_us]
      exact ⟨rfl, fun s' h => ⟨rfl, h4, rfl⟩⟩
    · rw [upN_n e, upN_n e, upN_n e, upN_n e, pk_un e, pk_un e, pk_un e, pk_un e]
      exact hpp p hpl
theorem M_er_loop (hM : RMP nb sp sec val ser kin era prg new nxt opn ops fus ent ese eva eso v) (hW : WfP nb c sec ser kin era prg new nxt opn) {w : Nat} (hw : w < nb) : ∀ r N q v, q + r = 4 → r < N → ((∀ p, p < 4 * nb → (if 4 * w ≤ p ∧ p < 4 * w + q then mu_sec v p = zI (-1) else mu_sec v p = cO (sec p)) ∧ ∀ s, sec p = some s → mu_val v p = val p ∧ mu_ser v p = nI (ser p) ∧ mu_sor v p = kin p) ∧ (mu_spr v = nI sp ∧ mu_opn v = cO opn ∧ mu_blk v = nI nb ∧ mu_nxt v = nI nxt ∧ mu_ops v = ops ∧ mu_fus v = nI fus ∧ mu_ent v = nI ent) ∧ (∀ b, b < nb → mu_era v b = nI (era b)) ∧ (∀ k, k < ent → mu_ese v k = nI (ese k) ∧ mu_eva v k = eva k ∧ mu_eso v k = eso k)) → ∃ v', fX3_collect_67 mN K N (nI w) (nI (4 * w + q)) v = some (zI 1, v') ∧ RMP nb sp (erN sec w) val ser kin (upN era w (era w + 1)) (upN prg w 0) new nxt opn ops fus ent ese eva eso v' := by
  have h12 := hW.1.2.1
  intro r
  induction r with
  | zero =>
    intro N q v hq hN ⟨g1, g3, g4, g6⟩
    obtain ⟨N', rfl⟩ : ∃ N', N = N' + 1 := ⟨N - 1, by omega⟩
    have eq4 : q = 4 := by omega
    subst eq4
    refine ⟨mu_s_era v (upd (mu_era v) w (nI (era w + 1))), ?_, g3, fun p hp => ?_, fun b' hb' => ?_, g6⟩
    · rw [fX3_collect_67, zn4, nI_page4, if_pos (nI_le (Nat.le_refl _) (by omega)), mN5, vg_in (by omega) (by omega), vg_in (by omega) (by omega), nI_clamp (by omega), g4 w hw, zn1, nI_add]
    · show mu_sec v p = cO (erN sec w p) ∧ ∀ s, erN sec w p = some s → mu_val v p = val p ∧ mu_ser v p = nI (ser p) ∧ mu_sor v p = kin p
      have := g1 p hp
      by_cases hin : 4 * w ≤ p ∧ p < 4 * w + 4
      · rw [erN_in hin]
        rw [if_pos hin] at this
        exact ⟨this.1, fun s h => by cases h⟩
      · rw [erN_out hin]
        rw [if_neg hin] at this
        exact this
    · show upd (mu_era v) w (nI (era w + 1)) b' = nI (upN era w (era w + 1) b')
      by_cases e : b' = w
      · subst e
        rw [upN_s, pk_us]
      · rw [upN_n e, pk_un e]
        exact g4 b' hb'
  | succ r ih =>
    intro N q v hq hN ⟨g1, g3, g4, g6⟩
    obtain ⟨N', rfl⟩ : ∃ N', N = N' + 1 := ⟨N - 1, by omega⟩
    rw [fX3_collect_67, if_neg (by rw [zn4, nI_page4]; exact nI_ge (by omega) (by omega)), mN1, vg_in (by omega) (by omega), nI_clamp (by omega), zn1, nI_add]
    refine ih N' (q + 1) _ (by omega) (by omega) ⟨fun p hp => ?_, g3, g4, g6⟩
    show (if 4 * w ≤ p ∧ p < 4 * w + (q + 1) then upd (mu_sec v) (4 * w + q) (zI (-1)) p = zI (-1) else upd (mu_sec v) (4 * w + q) (zI (-1)) p = cO (sec p)) ∧ _
    refine ⟨?_, (g1 p hp).2⟩
    have := (g1 p hp).1
    by_cases e : p = 4 * w + q
    · rw [e, pk_us, if_pos (by omega)]
    · rw [pk_un e]
      by_cases hin : 4 * w ≤ p ∧ p < 4 * w + q
      · rw [if_pos hin] at this
        rw [if_pos (by omega)]; exact this
      · rw [if_neg hin] at this
        rw [if_neg (by omega)]; exact this
end
