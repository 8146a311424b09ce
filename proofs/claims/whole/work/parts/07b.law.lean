set_option maxHeartbeats 4000000 in
set_option maxRecDepth 100000 in
/-- the law's loop: with t calls done the class and the reference stand in the relation -/
theorem law_loop {p : Program} {l : Launch} {e : Env} {s : State} {m : MethodId} {below : List Frame} {meth : Method} {c : Code} {D : va_G} {bs L : Nat} {xs : Nat → Int32} {a a' : Nat → Nat} {cA cA' : Nat → ClassId} {b K : Nat} {Rel : Nat → XU → MU → Prop} (hL : L ≤ 1538) (C0 : lw_At p s m meth c bs L xs) (hN : XNW s) (hKX : va_K D vwCl (XT cA) s) (hKM : va_K D vwCl (MT cA') s) (hapA : ∀ i, i < 13 → ∀ j, j < 9 → a i ≠ a' j) (hst : LawSteps K b Rel) :
    ∀ (N t : Nat) (u : XU) (v : MU) (H : Heap) (locs : List Loc) (ls : Array Slot), t ≤ 512 → t + N = 513 → Rel t u v → va_P D vwCl (XW a (xN b) cA u) H → va_D (fun q : Nat => s.heap.size ≤ q) (XW a (xN b) cA u) → va_P D vwCl (MW a' mN cA' v) H → va_D (fun q : Nat => s.heap.size ≤ q) (MW a' mN cA' v) → va_S (fun q : Nat => s.heap.size ≤ q) s.heap H locs → lv_has ls 4 [(0, .ref bs), (1, .ref (a 0)), (2, .ref (a' 0)), (3, .int (nI (2 + 3 * t)))] → W p l e room_1 s m #[Value.ref bs] below meth c H locs 22 509 (lw_Z below #[Value.ref bs] s) (F0 m 38 ls []) := by
  obtain ⟨hx, hb, hr, hml, hown, hts, hX, hbl, hlocks, hgv⟩ := C0
  have hown : s.vm.findClass RL = some m.cls := hown
  have hts := fun w h => hts w (wsL_law_in w h)
  have hA : ∀ q : Nat, s.heap.size ≤ q → (fun q : Nat => s.heap.size ≤ q) q := fun _ h => h
  have hbA : ¬ (fun q : Nat => s.heap.size ≤ q) bs := Nat.not_le.mpr hbl
  have hap : ∀ (u : XU) (v : MU) (i j : Nat) (p q : Nat × va_E), (XW a (xN b) cA u)[i]? = some p → (MW a' mN cA' v)[j]? = some q → p.1 ≠ q.1 := fun u v i j p q h1 h2 h => by
    have e1 := XW_ad i p h1
    have e2 := MW_ad j q h2
    exact hapA i e1.1 j e2.1 (by rw [← e1.2, ← e2.2]; exact h)
  have hap' : ∀ (u : XU) (v : MU) (i j : Nat) (p q : Nat × va_E), (MW a' mN cA' v)[i]? = some p → (XW a (xN b) cA u)[j]? = some q → p.1 ≠ q.1 := fun u v i j p q h1 h2 h => hap u v j i q p h2 h1 h.symm
  intro N
  induction N with
  | zero =>
    intro t u v H locs ls h1 h2
    omega
  | succ N ih =>
    intro t u v H locs ls ht hNt hR hP hD hP' hD' hS hl
    refine lv_iload_n hx hb dL_law_38 rfl (lv_at hl 3 rfl) ?_
    refine lv_aload_n hx hb dL_law_39 rfl (lv_at hl 0 rfl) ?_
    refine va_slen hx hb hX hbl hbA hS dL_law_40 ?_
    refine lv_iconst (v := nI 3) hx hb dL_law_41 (by decide) ?_
    refine lv_isub hx hb dL_law_42 ?_
    refine lv_icmp_gt (tgt := 471) hx hb dL_law_43 (by decide) (fun c1 => ?_) (fun c1 => ?_)
    · refine lv_iconst (v := 1) hx hb dL_law_471 (by decide) ?_
      refine va_forget (fun q hq => hS.2.2 q hq) ?_
      refine W.widen (k := 600000) (n := 7302250) (by omega) (by omega) ?_
      exact lw_ret hx hb hr hlocks dL_law_472
    · have hi : 2 + 3 * t + 3 ≤ L := lw_ix hL (by omega) c1
      have ht' : t < 512 := by omega
      refine lv_aload_n hx hb dL_law_46 rfl (lv_at hl 0 rfl) ?_
      refine lv_iload_n hx hb dL_law_47 rfl (lv_at hl 3 rfl) ?_
      refine va_sld hx hb hX hbl hbA hS (vp_in_nI (by omega) (by omega)) dL_law_48 ?_
      refine lv_bipush (v := nI 31) hx hb dL_law_49 (by decide) ?_
      refine lv_iand hx hb dL_law_51 ?_
      obtain ⟨k, hk, ek⟩ := pk_andE (xs (nI (2 + 3 * t)).toNatClampNeg) (m := nI 31) 5 (by decide)
      rw [ek]
      have next : ∀ (u : XU) (v : MU) (H : Heap) (locs : List Loc) (ls : Array Slot), Rel (t + 1) u v → va_P D vwCl (XW a (xN b) cA u) H → va_D (fun q : Nat => s.heap.size ≤ q) (XW a (xN b) cA u) → va_P D vwCl (MW a' mN cA' v) H → va_D (fun q : Nat => s.heap.size ≤ q) (MW a' mN cA' v) → va_S (fun q : Nat => s.heap.size ≤ q) s.heap H locs → lv_has ls 4 [(0, .ref bs), (1, .ref (a 0)), (2, .ref (a' 0)), (3, .int (nI (2 + 3 * t)))] → W p l e room_1 s m #[Value.ref bs] below meth c H locs 22 509 (lw_Z below #[Value.ref bs] s) (F0 m 465 ls []) := by
        intro u v H locs ls hR hP hD hP' hD' hS hl
        refine lv_iinc (v := nI (2 + 3 * (t + 1))) (lv' := [(3, .int (nI (2 + 3 * (t + 1)))), (0, .ref bs), (1, .ref (a 0)), (2, .ref (a' 0))]) hx hb dL_law_465 hl (k := 3) rfl (by show nI (2 + 3 * t) + nI 3 = _; rw [nI_add]; congr 1) (by decide) rfl (fun ls hl => ?_)
        refine lv_goto (tgt := 38) hx hb dL_law_468 (by decide) ?_
        exact ih (t + 1) u v H locs ls (by omega) (by omega) hR hP hD hP' hD' hS (lv_sub hl [1, 2, 3, 0] rfl)
      obtain ⟨hmono, s_sectors, s_write, s_trim, s_flush, s_cut, s_fuse, s_read, s_holds, s_buffered, s_place, s_tag, s_serial, s_valid, s_erasures, s_open, s_free, s_operations⟩ := hst
      rcases (show k = 0 ∨ k = 1 ∨ k = 2 ∨ k = 3 ∨ k = 4 ∨ k = 5 ∨ k = 6 ∨ k = 7 ∨ k = 8 ∨ k = 9 ∨ k = 10 ∨ k = 11 ∨ k = 12 ∨ k = 13 ∨ k = 14 ∨ k = 15 ∨ k = 16 ∨ 17 ≤ k by omega) with rfl | rfl | rfl | rfl | rfl | rfl | rfl | rfl | rfl | rfl | rfl | rfl | rfl | rfl | rfl | rfl | rfl | h17
      · refine lv_tableIn (tgt := 136) hx hb dL_law_52 (by decide) (by decide) (off := 84) (by decide) (by decide) ?_
        obtain ⟨r, u2, v2, hF, hG, hR2⟩ := s_sectors t u v ht' hR
        refine lv_aload_n hx hb dL_law_136 rfl (lv_at hl 1 rfl) ?_
        refine vz_call2 (rest := []) ⟨hx, hb, hml, hown, hts⟩ hN hKX hA (kX2_sectors hF) (cwV 0 hts gL_law_X2_sectors rfl rfl rfl (by decide +kernel) ⟨Nat.le_of_ble_eq_true rfl, Nat.le_of_ble_eq_true rfl⟩) 0 2 rfl rfl rfl hl.1 rfl (Nat.le_of_ble_eq_true rfl) dL_law_137 ⟨Nat.le_of_ble_eq_true rfl, Nat.le_of_ble_eq_true rfl⟩ hP hD hS hP' (hap _ _) (fun H locs hP hD hP' hS => ?_)
        refine lv_aload_n hx hb dL_law_140 rfl (lv_at hl 2 rfl) ?_
        refine vz_call2 (rest := [.int r]) ⟨hx, hb, hml, hown, hts⟩ hN hKM hA (kX3_sectors hG) (cwV 0 hts gL_law_X3_sectors rfl rfl rfl (by decide +kernel) ⟨Nat.le_of_ble_eq_true rfl, Nat.le_of_ble_eq_true rfl⟩) 0 3 rfl rfl rfl hl.1 rfl (Nat.le_of_ble_eq_true rfl) dL_law_141 ⟨Nat.le_of_ble_eq_true rfl, Nat.le_of_ble_eq_true rfl⟩ hP' hD' hS hP (hap' _ _) (fun H locs hP' hD' hP hS => ?_)
        refine lv_icmp_eq (tgt := 465) hx hb dL_law_144 (by decide) (fun c2 => ?_) (fun c2 => absurd rfl c2)
        exact next u2 v2 H locs ls hR2 hP hD hP' hD' hS hl
      · refine lv_tableIn (tgt := 149) hx hb dL_law_52 (by decide) (by decide) (off := 97) (by decide) (by decide) ?_
        obtain ⟨r, u2, v2, hF, hG, hR2⟩ := s_write (xs (nI (2 + 3 * t + 1)).toNatClampNeg) (xs (nI (2 + 3 * t + 2)).toNatClampNeg) t u v ht' hR
        refine lv_aload_n hx hb dL_law_149 rfl (lv_at hl 1 rfl) ?_
        refine lv_aload_n hx hb dL_law_150 rfl (lv_at hl 0 rfl) ?_
        refine lv_iload_n hx hb dL_law_151 rfl (lv_at hl 3 rfl) ?_
        refine lv_iconst (v := nI 1) hx hb dL_law_152 (by decide) ?_
        refine lv_iadd hx hb dL_law_153 ?_
        rw [nI_add]
        refine va_sld hx hb hX hbl hbA hS (vp_in_nI (by omega) (by omega)) dL_law_154 ?_
        refine lv_aload_n hx hb dL_law_155 rfl (lv_at hl 0 rfl) ?_
        refine lv_iload_n hx hb dL_law_156 rfl (lv_at hl 3 rfl) ?_
        refine lv_iconst (v := nI 2) hx hb dL_law_157 (by decide) ?_
        refine lv_iadd hx hb dL_law_158 ?_
        rw [nI_add]
        refine va_sld hx hb hX hbl hbA hS (vp_in_nI (by omega) (by omega)) dL_law_159 ?_
        refine vz_call2 (rest := []) ⟨hx, hb, hml, hown, hts⟩ hN hKX hA (kX2_write hF) (cwV 2 hts gL_law_X2_write rfl rfl rfl (by decide +kernel) ⟨Nat.le_of_ble_eq_true rfl, Nat.le_of_ble_eq_true rfl⟩) 0 2 rfl rfl rfl hl.1 rfl (Nat.le_of_ble_eq_true rfl) dL_law_160 ⟨Nat.le_of_ble_eq_true rfl, Nat.le_of_ble_eq_true rfl⟩ hP hD hS hP' (hap _ _) (fun H locs hP hD hP' hS => ?_)
        refine lv_aload_n hx hb dL_law_163 rfl (lv_at hl 2 rfl) ?_
        refine lv_aload_n hx hb dL_law_164 rfl (lv_at hl 0 rfl) ?_
        refine lv_iload_n hx hb dL_law_165 rfl (lv_at hl 3 rfl) ?_
        refine lv_iconst (v := nI 1) hx hb dL_law_166 (by decide) ?_
        refine lv_iadd hx hb dL_law_167 ?_
        rw [nI_add]
        refine va_sld hx hb hX hbl hbA hS (vp_in_nI (by omega) (by omega)) dL_law_168 ?_
        refine lv_aload_n hx hb dL_law_169 rfl (lv_at hl 0 rfl) ?_
        refine lv_iload_n hx hb dL_law_170 rfl (lv_at hl 3 rfl) ?_
        refine lv_iconst (v := nI 2) hx hb dL_law_171 (by decide) ?_
        refine lv_iadd hx hb dL_law_172 ?_
        rw [nI_add]
        refine va_sld hx hb hX hbl hbA hS (vp_in_nI (by omega) (by omega)) dL_law_173 ?_
        refine vz_call2 (rest := [.int r]) ⟨hx, hb, hml, hown, hts⟩ hN hKM hA (kX3_write hG) (cwV 2 hts gL_law_X3_write rfl rfl rfl (by decide +kernel) ⟨Nat.le_of_ble_eq_true rfl, Nat.le_of_ble_eq_true rfl⟩) 0 3 rfl rfl rfl hl.1 rfl (Nat.le_of_ble_eq_true rfl) dL_law_174 ⟨Nat.le_of_ble_eq_true rfl, Nat.le_of_ble_eq_true rfl⟩ hP' hD' hS hP (hap' _ _) (fun H locs hP' hD' hP hS => ?_)
        refine lv_icmp_eq (tgt := 465) hx hb dL_law_177 (by decide) (fun c2 => ?_) (fun c2 => absurd rfl c2)
        exact next u2 v2 H locs ls hR2 hP hD hP' hD' hS hl
      · refine lv_tableIn (tgt := 182) hx hb dL_law_52 (by decide) (by decide) (off := 130) (by decide) (by decide) ?_
        obtain ⟨r, u2, v2, hF, hG, hR2⟩ := s_trim (xs (nI (2 + 3 * t + 1)).toNatClampNeg) t u v ht' hR
        refine lv_aload_n hx hb dL_law_182 rfl (lv_at hl 1 rfl) ?_
        refine lv_aload_n hx hb dL_law_183 rfl (lv_at hl 0 rfl) ?_
        refine lv_iload_n hx hb dL_law_184 rfl (lv_at hl 3 rfl) ?_
        refine lv_iconst (v := nI 1) hx hb dL_law_185 (by decide) ?_
        refine lv_iadd hx hb dL_law_186 ?_
        rw [nI_add]
        refine va_sld hx hb hX hbl hbA hS (vp_in_nI (by omega) (by omega)) dL_law_187 ?_
        refine vz_call2 (rest := []) ⟨hx, hb, hml, hown, hts⟩ hN hKX hA (kX2_trim hF) (cwV 1 hts gL_law_X2_trim rfl rfl rfl (by decide +kernel) ⟨Nat.le_of_ble_eq_true rfl, Nat.le_of_ble_eq_true rfl⟩) 0 2 rfl rfl rfl hl.1 rfl (Nat.le_of_ble_eq_true rfl) dL_law_188 ⟨Nat.le_of_ble_eq_true rfl, Nat.le_of_ble_eq_true rfl⟩ hP hD hS hP' (hap _ _) (fun H locs hP hD hP' hS => ?_)
        refine lv_aload_n hx hb dL_law_191 rfl (lv_at hl 2 rfl) ?_
        refine lv_aload_n hx hb dL_law_192 rfl (lv_at hl 0 rfl) ?_
        refine lv_iload_n hx hb dL_law_193 rfl (lv_at hl 3 rfl) ?_
        refine lv_iconst (v := nI 1) hx hb dL_law_194 (by decide) ?_
        refine lv_iadd hx hb dL_law_195 ?_
        rw [nI_add]
        refine va_sld hx hb hX hbl hbA hS (vp_in_nI (by omega) (by omega)) dL_law_196 ?_
        refine vz_call2 (rest := [.int r]) ⟨hx, hb, hml, hown, hts⟩ hN hKM hA (kX3_trim hG) (cwV 1 hts gL_law_X3_trim rfl rfl rfl (by decide +kernel) ⟨Nat.le_of_ble_eq_true rfl, Nat.le_of_ble_eq_true rfl⟩) 0 3 rfl rfl rfl hl.1 rfl (Nat.le_of_ble_eq_true rfl) dL_law_197 ⟨Nat.le_of_ble_eq_true rfl, Nat.le_of_ble_eq_true rfl⟩ hP' hD' hS hP (hap' _ _) (fun H locs hP' hD' hP hS => ?_)
        refine lv_icmp_eq (tgt := 465) hx hb dL_law_200 (by decide) (fun c2 => ?_) (fun c2 => absurd rfl c2)
        exact next u2 v2 H locs ls hR2 hP hD hP' hD' hS hl
      · refine lv_tableIn (tgt := 205) hx hb dL_law_52 (by decide) (by decide) (off := 153) (by decide) (by decide) ?_
        obtain ⟨r, u2, v2, hF, hG, hR2⟩ := s_flush t u v ht' hR
        refine lv_aload_n hx hb dL_law_205 rfl (lv_at hl 1 rfl) ?_
        refine vz_call2 (rest := []) ⟨hx, hb, hml, hown, hts⟩ hN hKX hA (kX2_flush hF) (cwV 0 hts gL_law_X2_flush rfl rfl rfl (by decide +kernel) ⟨Nat.le_of_ble_eq_true rfl, Nat.le_of_ble_eq_true rfl⟩) 0 2 rfl rfl rfl hl.1 rfl (Nat.le_of_ble_eq_true rfl) dL_law_206 ⟨Nat.le_of_ble_eq_true rfl, Nat.le_of_ble_eq_true rfl⟩ hP hD hS hP' (hap _ _) (fun H locs hP hD hP' hS => ?_)
        refine lv_aload_n hx hb dL_law_209 rfl (lv_at hl 2 rfl) ?_
        refine vz_call2 (rest := [.int r]) ⟨hx, hb, hml, hown, hts⟩ hN hKM hA (kX3_flush hG) (cwV 0 hts gL_law_X3_flush rfl rfl rfl (by decide +kernel) ⟨Nat.le_of_ble_eq_true rfl, Nat.le_of_ble_eq_true rfl⟩) 0 3 rfl rfl rfl hl.1 rfl (Nat.le_of_ble_eq_true rfl) dL_law_210 ⟨Nat.le_of_ble_eq_true rfl, Nat.le_of_ble_eq_true rfl⟩ hP' hD' hS hP (hap' _ _) (fun H locs hP' hD' hP hS => ?_)
        refine lv_icmp_eq (tgt := 465) hx hb dL_law_213 (by decide) (fun c2 => ?_) (fun c2 => absurd rfl c2)
        exact next u2 v2 H locs ls hR2 hP hD hP' hD' hS hl
      · refine lv_tableIn (tgt := 218) hx hb dL_law_52 (by decide) (by decide) (off := 166) (by decide) (by decide) ?_
        obtain ⟨u2, v2, hF, hG, hR2⟩ := s_cut t u v ht' hR
        refine lv_aload_n hx hb dL_law_218 rfl (lv_at hl 1 rfl) ?_
        refine vz_call2v (rest := []) ⟨hx, hb, hml, hown, hts⟩ hN hKX hA (kX2_cut hF) (cwV 0 hts gL_law_X2_cut rfl rfl rfl (by decide +kernel) ⟨Nat.le_of_ble_eq_true rfl, Nat.le_of_ble_eq_true rfl⟩) 0 2 rfl rfl rfl hl.1 rfl (Nat.le_of_ble_eq_true rfl) dL_law_219 ⟨Nat.le_of_ble_eq_true rfl, Nat.le_of_ble_eq_true rfl⟩ hP hD hS hP' (hap _ _) (fun H locs hP hD hP' hS => ?_)
        refine lv_aload_n hx hb dL_law_222 rfl (lv_at hl 2 rfl) ?_
        refine vz_call2v (rest := []) ⟨hx, hb, hml, hown, hts⟩ hN hKM hA (kX3_cut hG) (cwV 0 hts gL_law_X3_cut rfl rfl rfl (by decide +kernel) ⟨Nat.le_of_ble_eq_true rfl, Nat.le_of_ble_eq_true rfl⟩) 0 3 rfl rfl rfl hl.1 rfl (Nat.le_of_ble_eq_true rfl) dL_law_223 ⟨Nat.le_of_ble_eq_true rfl, Nat.le_of_ble_eq_true rfl⟩ hP' hD' hS hP (hap' _ _) (fun H locs hP' hD' hP hS => ?_)
        refine lv_goto (tgt := 465) hx hb dL_law_226 (by decide) ?_
        exact next u2 v2 H locs ls hR2 hP hD hP' hD' hS hl
      · refine lv_tableIn (tgt := 229) hx hb dL_law_52 (by decide) (by decide) (off := 177) (by decide) (by decide) ?_
        obtain ⟨r, u2, v2, hF, hG, hR2⟩ := s_fuse (xs (nI (2 + 3 * t + 1)).toNatClampNeg) t u v ht' hR
        refine lv_aload_n hx hb dL_law_229 rfl (lv_at hl 1 rfl) ?_
        refine lv_aload_n hx hb dL_law_230 rfl (lv_at hl 0 rfl) ?_
        refine lv_iload_n hx hb dL_law_231 rfl (lv_at hl 3 rfl) ?_
        refine lv_iconst (v := nI 1) hx hb dL_law_232 (by decide) ?_
        refine lv_iadd hx hb dL_law_233 ?_
        rw [nI_add]
        refine va_sld hx hb hX hbl hbA hS (vp_in_nI (by omega) (by omega)) dL_law_234 ?_
        refine vz_call2 (rest := []) ⟨hx, hb, hml, hown, hts⟩ hN hKX hA (kX2_fuse hF) (cwV 1 hts gL_law_X2_fuse rfl rfl rfl (by decide +kernel) ⟨Nat.le_of_ble_eq_true rfl, Nat.le_of_ble_eq_true rfl⟩) 0 2 rfl rfl rfl hl.1 rfl (Nat.le_of_ble_eq_true rfl) dL_law_235 ⟨Nat.le_of_ble_eq_true rfl, Nat.le_of_ble_eq_true rfl⟩ hP hD hS hP' (hap _ _) (fun H locs hP hD hP' hS => ?_)
        refine lv_aload_n hx hb dL_law_238 rfl (lv_at hl 2 rfl) ?_
        refine lv_aload_n hx hb dL_law_239 rfl (lv_at hl 0 rfl) ?_
        refine lv_iload_n hx hb dL_law_240 rfl (lv_at hl 3 rfl) ?_
        refine lv_iconst (v := nI 1) hx hb dL_law_241 (by decide) ?_
        refine lv_iadd hx hb dL_law_242 ?_
        rw [nI_add]
        refine va_sld hx hb hX hbl hbA hS (vp_in_nI (by omega) (by omega)) dL_law_243 ?_
        refine vz_call2 (rest := [.int r]) ⟨hx, hb, hml, hown, hts⟩ hN hKM hA (kX3_fuse hG) (cwV 1 hts gL_law_X3_fuse rfl rfl rfl (by decide +kernel) ⟨Nat.le_of_ble_eq_true rfl, Nat.le_of_ble_eq_true rfl⟩) 0 3 rfl rfl rfl hl.1 rfl (Nat.le_of_ble_eq_true rfl) dL_law_244 ⟨Nat.le_of_ble_eq_true rfl, Nat.le_of_ble_eq_true rfl⟩ hP' hD' hS hP (hap' _ _) (fun H locs hP' hD' hP hS => ?_)
        refine lv_icmp_eq (tgt := 465) hx hb dL_law_247 (by decide) (fun c2 => ?_) (fun c2 => absurd rfl c2)
        exact next u2 v2 H locs ls hR2 hP hD hP' hD' hS hl
      · refine lv_tableIn (tgt := 252) hx hb dL_law_52 (by decide) (by decide) (off := 200) (by decide) (by decide) ?_
        obtain ⟨r, u2, v2, hF, hG, hR2⟩ := s_read (xs (nI (2 + 3 * t + 1)).toNatClampNeg) t u v ht' hR
        refine lv_aload_n hx hb dL_law_252 rfl (lv_at hl 1 rfl) ?_
        refine lv_aload_n hx hb dL_law_253 rfl (lv_at hl 0 rfl) ?_
        refine lv_iload_n hx hb dL_law_254 rfl (lv_at hl 3 rfl) ?_
        refine lv_iconst (v := nI 1) hx hb dL_law_255 (by decide) ?_
        refine lv_iadd hx hb dL_law_256 ?_
        rw [nI_add]
        refine va_sld hx hb hX hbl hbA hS (vp_in_nI (by omega) (by omega)) dL_law_257 ?_
        refine vz_call2 (rest := []) ⟨hx, hb, hml, hown, hts⟩ hN hKX hA (kX2_read hF) (cwV 1 hts gL_law_X2_read rfl rfl rfl (by decide +kernel) ⟨Nat.le_of_ble_eq_true rfl, Nat.le_of_ble_eq_true rfl⟩) 0 2 rfl rfl rfl hl.1 rfl (Nat.le_of_ble_eq_true rfl) dL_law_258 ⟨Nat.le_of_ble_eq_true rfl, Nat.le_of_ble_eq_true rfl⟩ hP hD hS hP' (hap _ _) (fun H locs hP hD hP' hS => ?_)
        refine lv_aload_n hx hb dL_law_261 rfl (lv_at hl 2 rfl) ?_
        refine lv_aload_n hx hb dL_law_262 rfl (lv_at hl 0 rfl) ?_
        refine lv_iload_n hx hb dL_law_263 rfl (lv_at hl 3 rfl) ?_
        refine lv_iconst (v := nI 1) hx hb dL_law_264 (by decide) ?_
        refine lv_iadd hx hb dL_law_265 ?_
        rw [nI_add]
        refine va_sld hx hb hX hbl hbA hS (vp_in_nI (by omega) (by omega)) dL_law_266 ?_
        refine vz_call2 (rest := [.int r]) ⟨hx, hb, hml, hown, hts⟩ hN hKM hA (kX3_read hG) (cwV 1 hts gL_law_X3_read rfl rfl rfl (by decide +kernel) ⟨Nat.le_of_ble_eq_true rfl, Nat.le_of_ble_eq_true rfl⟩) 0 3 rfl rfl rfl hl.1 rfl (Nat.le_of_ble_eq_true rfl) dL_law_267 ⟨Nat.le_of_ble_eq_true rfl, Nat.le_of_ble_eq_true rfl⟩ hP' hD' hS hP (hap' _ _) (fun H locs hP' hD' hP hS => ?_)
        refine lv_icmp_eq (tgt := 465) hx hb dL_law_270 (by decide) (fun c2 => ?_) (fun c2 => absurd rfl c2)
        exact next u2 v2 H locs ls hR2 hP hD hP' hD' hS hl
      · refine lv_tableIn (tgt := 275) hx hb dL_law_52 (by decide) (by decide) (off := 223) (by decide) (by decide) ?_
        obtain ⟨r, u2, v2, hF, hG, hR2⟩ := s_holds (xs (nI (2 + 3 * t + 1)).toNatClampNeg) t u v ht' hR
        refine lv_aload_n hx hb dL_law_275 rfl (lv_at hl 1 rfl) ?_
        refine lv_aload_n hx hb dL_law_276 rfl (lv_at hl 0 rfl) ?_
        refine lv_iload_n hx hb dL_law_277 rfl (lv_at hl 3 rfl) ?_
        refine lv_iconst (v := nI 1) hx hb dL_law_278 (by decide) ?_
        refine lv_iadd hx hb dL_law_279 ?_
        rw [nI_add]
        refine va_sld hx hb hX hbl hbA hS (vp_in_nI (by omega) (by omega)) dL_law_280 ?_
        refine vz_call2 (rest := []) ⟨hx, hb, hml, hown, hts⟩ hN hKX hA (kX2_holds hF) (cwV 1 hts gL_law_X2_holds rfl rfl rfl (by decide +kernel) ⟨Nat.le_of_ble_eq_true rfl, Nat.le_of_ble_eq_true rfl⟩) 0 2 rfl rfl rfl hl.1 rfl (Nat.le_of_ble_eq_true rfl) dL_law_281 ⟨Nat.le_of_ble_eq_true rfl, Nat.le_of_ble_eq_true rfl⟩ hP hD hS hP' (hap _ _) (fun H locs hP hD hP' hS => ?_)
        refine lv_aload_n hx hb dL_law_284 rfl (lv_at hl 2 rfl) ?_
        refine lv_aload_n hx hb dL_law_285 rfl (lv_at hl 0 rfl) ?_
        refine lv_iload_n hx hb dL_law_286 rfl (lv_at hl 3 rfl) ?_
        refine lv_iconst (v := nI 1) hx hb dL_law_287 (by decide) ?_
        refine lv_iadd hx hb dL_law_288 ?_
        rw [nI_add]
        refine va_sld hx hb hX hbl hbA hS (vp_in_nI (by omega) (by omega)) dL_law_289 ?_
        refine vz_call2 (rest := [.int r]) ⟨hx, hb, hml, hown, hts⟩ hN hKM hA (kX3_holds hG) (cwV 1 hts gL_law_X3_holds rfl rfl rfl (by decide +kernel) ⟨Nat.le_of_ble_eq_true rfl, Nat.le_of_ble_eq_true rfl⟩) 0 3 rfl rfl rfl hl.1 rfl (Nat.le_of_ble_eq_true rfl) dL_law_290 ⟨Nat.le_of_ble_eq_true rfl, Nat.le_of_ble_eq_true rfl⟩ hP' hD' hS hP (hap' _ _) (fun H locs hP' hD' hP hS => ?_)
        refine lv_icmp_eq (tgt := 465) hx hb dL_law_293 (by decide) (fun c2 => ?_) (fun c2 => absurd rfl c2)
        exact next u2 v2 H locs ls hR2 hP hD hP' hD' hS hl
      · refine lv_tableIn (tgt := 298) hx hb dL_law_52 (by decide) (by decide) (off := 246) (by decide) (by decide) ?_
        obtain ⟨r, u2, v2, hF, hG, hR2⟩ := s_buffered t u v ht' hR
        refine lv_aload_n hx hb dL_law_298 rfl (lv_at hl 1 rfl) ?_
        refine vz_call2 (rest := []) ⟨hx, hb, hml, hown, hts⟩ hN hKX hA (kX2_buffered hF) (cwV 0 hts gL_law_X2_buffered rfl rfl rfl (by decide +kernel) ⟨Nat.le_of_ble_eq_true rfl, Nat.le_of_ble_eq_true rfl⟩) 0 2 rfl rfl rfl hl.1 rfl (Nat.le_of_ble_eq_true rfl) dL_law_299 ⟨Nat.le_of_ble_eq_true rfl, Nat.le_of_ble_eq_true rfl⟩ hP hD hS hP' (hap _ _) (fun H locs hP hD hP' hS => ?_)
        refine lv_aload_n hx hb dL_law_302 rfl (lv_at hl 2 rfl) ?_
        refine vz_call2 (rest := [.int r]) ⟨hx, hb, hml, hown, hts⟩ hN hKM hA (kX3_buffered hG) (cwV 0 hts gL_law_X3_buffered rfl rfl rfl (by decide +kernel) ⟨Nat.le_of_ble_eq_true rfl, Nat.le_of_ble_eq_true rfl⟩) 0 3 rfl rfl rfl hl.1 rfl (Nat.le_of_ble_eq_true rfl) dL_law_303 ⟨Nat.le_of_ble_eq_true rfl, Nat.le_of_ble_eq_true rfl⟩ hP' hD' hS hP (hap' _ _) (fun H locs hP' hD' hP hS => ?_)
        refine lv_icmp_eq (tgt := 465) hx hb dL_law_306 (by decide) (fun c2 => ?_) (fun c2 => absurd rfl c2)
        exact next u2 v2 H locs ls hR2 hP hD hP' hD' hS hl
      · refine lv_tableIn (tgt := 311) hx hb dL_law_52 (by decide) (by decide) (off := 259) (by decide) (by decide) ?_
        obtain ⟨r, u2, v2, hF, hG, hR2⟩ := s_place (xs (nI (2 + 3 * t + 1)).toNatClampNeg) t u v ht' hR
        refine lv_aload_n hx hb dL_law_311 rfl (lv_at hl 1 rfl) ?_
        refine lv_aload_n hx hb dL_law_312 rfl (lv_at hl 0 rfl) ?_
        refine lv_iload_n hx hb dL_law_313 rfl (lv_at hl 3 rfl) ?_
        refine lv_iconst (v := nI 1) hx hb dL_law_314 (by decide) ?_
        refine lv_iadd hx hb dL_law_315 ?_
        rw [nI_add]
        refine va_sld hx hb hX hbl hbA hS (vp_in_nI (by omega) (by omega)) dL_law_316 ?_
        refine vz_call2 (rest := []) ⟨hx, hb, hml, hown, hts⟩ hN hKX hA (kX2_place hF) (cwV 1 hts gL_law_X2_place rfl rfl rfl (by decide +kernel) ⟨Nat.le_of_ble_eq_true rfl, Nat.le_of_ble_eq_true rfl⟩) 0 2 rfl rfl rfl hl.1 rfl (Nat.le_of_ble_eq_true rfl) dL_law_317 ⟨Nat.le_of_ble_eq_true rfl, Nat.le_of_ble_eq_true rfl⟩ hP hD hS hP' (hap _ _) (fun H locs hP hD hP' hS => ?_)
        refine lv_aload_n hx hb dL_law_320 rfl (lv_at hl 2 rfl) ?_
        refine lv_aload_n hx hb dL_law_321 rfl (lv_at hl 0 rfl) ?_
        refine lv_iload_n hx hb dL_law_322 rfl (lv_at hl 3 rfl) ?_
        refine lv_iconst (v := nI 1) hx hb dL_law_323 (by decide) ?_
        refine lv_iadd hx hb dL_law_324 ?_
        rw [nI_add]
        refine va_sld hx hb hX hbl hbA hS (vp_in_nI (by omega) (by omega)) dL_law_325 ?_
        refine vz_call2 (rest := [.int r]) ⟨hx, hb, hml, hown, hts⟩ hN hKM hA (kX3_place hG) (cwV 1 hts gL_law_X3_place rfl rfl rfl (by decide +kernel) ⟨Nat.le_of_ble_eq_true rfl, Nat.le_of_ble_eq_true rfl⟩) 0 3 rfl rfl rfl hl.1 rfl (Nat.le_of_ble_eq_true rfl) dL_law_326 ⟨Nat.le_of_ble_eq_true rfl, Nat.le_of_ble_eq_true rfl⟩ hP' hD' hS hP (hap' _ _) (fun H locs hP' hD' hP hS => ?_)
        refine lv_icmp_eq (tgt := 465) hx hb dL_law_329 (by decide) (fun c2 => ?_) (fun c2 => absurd rfl c2)
        exact next u2 v2 H locs ls hR2 hP hD hP' hD' hS hl
      · refine lv_tableIn (tgt := 334) hx hb dL_law_52 (by decide) (by decide) (off := 282) (by decide) (by decide) ?_
        obtain ⟨r, u2, v2, hF, hG, hR2⟩ := s_tag (xs (nI (2 + 3 * t + 1)).toNatClampNeg) t u v ht' hR
        refine lv_aload_n hx hb dL_law_334 rfl (lv_at hl 1 rfl) ?_
        refine lv_aload_n hx hb dL_law_335 rfl (lv_at hl 0 rfl) ?_
        refine lv_iload_n hx hb dL_law_336 rfl (lv_at hl 3 rfl) ?_
        refine lv_iconst (v := nI 1) hx hb dL_law_337 (by decide) ?_
        refine lv_iadd hx hb dL_law_338 ?_
        rw [nI_add]
        refine va_sld hx hb hX hbl hbA hS (vp_in_nI (by omega) (by omega)) dL_law_339 ?_
        refine vz_call2 (rest := []) ⟨hx, hb, hml, hown, hts⟩ hN hKX hA (kX2_tag hF) (cwV 1 hts gL_law_X2_tag rfl rfl rfl (by decide +kernel) ⟨Nat.le_of_ble_eq_true rfl, Nat.le_of_ble_eq_true rfl⟩) 0 2 rfl rfl rfl hl.1 rfl (Nat.le_of_ble_eq_true rfl) dL_law_340 ⟨Nat.le_of_ble_eq_true rfl, Nat.le_of_ble_eq_true rfl⟩ hP hD hS hP' (hap _ _) (fun H locs hP hD hP' hS => ?_)
        refine lv_aload_n hx hb dL_law_343 rfl (lv_at hl 2 rfl) ?_
        refine lv_aload_n hx hb dL_law_344 rfl (lv_at hl 0 rfl) ?_
        refine lv_iload_n hx hb dL_law_345 rfl (lv_at hl 3 rfl) ?_
        refine lv_iconst (v := nI 1) hx hb dL_law_346 (by decide) ?_
        refine lv_iadd hx hb dL_law_347 ?_
        rw [nI_add]
        refine va_sld hx hb hX hbl hbA hS (vp_in_nI (by omega) (by omega)) dL_law_348 ?_
        refine vz_call2 (rest := [.int r]) ⟨hx, hb, hml, hown, hts⟩ hN hKM hA (kX3_tag hG) (cwV 1 hts gL_law_X3_tag rfl rfl rfl (by decide +kernel) ⟨Nat.le_of_ble_eq_true rfl, Nat.le_of_ble_eq_true rfl⟩) 0 3 rfl rfl rfl hl.1 rfl (Nat.le_of_ble_eq_true rfl) dL_law_349 ⟨Nat.le_of_ble_eq_true rfl, Nat.le_of_ble_eq_true rfl⟩ hP' hD' hS hP (hap' _ _) (fun H locs hP' hD' hP hS => ?_)
        refine lv_icmp_eq (tgt := 465) hx hb dL_law_352 (by decide) (fun c2 => ?_) (fun c2 => absurd rfl c2)
        exact next u2 v2 H locs ls hR2 hP hD hP' hD' hS hl
      · refine lv_tableIn (tgt := 357) hx hb dL_law_52 (by decide) (by decide) (off := 305) (by decide) (by decide) ?_
        obtain ⟨r, u2, v2, hF, hG, hR2⟩ := s_serial (xs (nI (2 + 3 * t + 1)).toNatClampNeg) t u v ht' hR
        refine lv_aload_n hx hb dL_law_357 rfl (lv_at hl 1 rfl) ?_
        refine lv_aload_n hx hb dL_law_358 rfl (lv_at hl 0 rfl) ?_
        refine lv_iload_n hx hb dL_law_359 rfl (lv_at hl 3 rfl) ?_
        refine lv_iconst (v := nI 1) hx hb dL_law_360 (by decide) ?_
        refine lv_iadd hx hb dL_law_361 ?_
        rw [nI_add]
        refine va_sld hx hb hX hbl hbA hS (vp_in_nI (by omega) (by omega)) dL_law_362 ?_
        refine vz_call2 (rest := []) ⟨hx, hb, hml, hown, hts⟩ hN hKX hA (kX2_serial hF) (cwV 1 hts gL_law_X2_serial rfl rfl rfl (by decide +kernel) ⟨Nat.le_of_ble_eq_true rfl, Nat.le_of_ble_eq_true rfl⟩) 0 2 rfl rfl rfl hl.1 rfl (Nat.le_of_ble_eq_true rfl) dL_law_363 ⟨Nat.le_of_ble_eq_true rfl, Nat.le_of_ble_eq_true rfl⟩ hP hD hS hP' (hap _ _) (fun H locs hP hD hP' hS => ?_)
        refine lv_aload_n hx hb dL_law_366 rfl (lv_at hl 2 rfl) ?_
        refine lv_aload_n hx hb dL_law_367 rfl (lv_at hl 0 rfl) ?_
        refine lv_iload_n hx hb dL_law_368 rfl (lv_at hl 3 rfl) ?_
        refine lv_iconst (v := nI 1) hx hb dL_law_369 (by decide) ?_
        refine lv_iadd hx hb dL_law_370 ?_
        rw [nI_add]
        refine va_sld hx hb hX hbl hbA hS (vp_in_nI (by omega) (by omega)) dL_law_371 ?_
        refine vz_call2 (rest := [.int r]) ⟨hx, hb, hml, hown, hts⟩ hN hKM hA (kX3_serial hG) (cwV 1 hts gL_law_X3_serial rfl rfl rfl (by decide +kernel) ⟨Nat.le_of_ble_eq_true rfl, Nat.le_of_ble_eq_true rfl⟩) 0 3 rfl rfl rfl hl.1 rfl (Nat.le_of_ble_eq_true rfl) dL_law_372 ⟨Nat.le_of_ble_eq_true rfl, Nat.le_of_ble_eq_true rfl⟩ hP' hD' hS hP (hap' _ _) (fun H locs hP' hD' hP hS => ?_)
        refine lv_icmp_eq (tgt := 465) hx hb dL_law_375 (by decide) (fun c2 => ?_) (fun c2 => absurd rfl c2)
        exact next u2 v2 H locs ls hR2 hP hD hP' hD' hS hl
      · refine lv_tableIn (tgt := 380) hx hb dL_law_52 (by decide) (by decide) (off := 328) (by decide) (by decide) ?_
        obtain ⟨r, u2, v2, hF, hG, hR2⟩ := s_valid (xs (nI (2 + 3 * t + 1)).toNatClampNeg) t u v ht' hR
        refine lv_aload_n hx hb dL_law_380 rfl (lv_at hl 1 rfl) ?_
        refine lv_aload_n hx hb dL_law_381 rfl (lv_at hl 0 rfl) ?_
        refine lv_iload_n hx hb dL_law_382 rfl (lv_at hl 3 rfl) ?_
        refine lv_iconst (v := nI 1) hx hb dL_law_383 (by decide) ?_
        refine lv_iadd hx hb dL_law_384 ?_
        rw [nI_add]
        refine va_sld hx hb hX hbl hbA hS (vp_in_nI (by omega) (by omega)) dL_law_385 ?_
        refine vz_call2 (rest := []) ⟨hx, hb, hml, hown, hts⟩ hN hKX hA (kX2_valid hF) (cwV 1 hts gL_law_X2_valid rfl rfl rfl (by decide +kernel) ⟨Nat.le_of_ble_eq_true rfl, Nat.le_of_ble_eq_true rfl⟩) 0 2 rfl rfl rfl hl.1 rfl (Nat.le_of_ble_eq_true rfl) dL_law_386 ⟨Nat.le_of_ble_eq_true rfl, Nat.le_of_ble_eq_true rfl⟩ hP hD hS hP' (hap _ _) (fun H locs hP hD hP' hS => ?_)
        refine lv_aload_n hx hb dL_law_389 rfl (lv_at hl 2 rfl) ?_
        refine lv_aload_n hx hb dL_law_390 rfl (lv_at hl 0 rfl) ?_
        refine lv_iload_n hx hb dL_law_391 rfl (lv_at hl 3 rfl) ?_
        refine lv_iconst (v := nI 1) hx hb dL_law_392 (by decide) ?_
        refine lv_iadd hx hb dL_law_393 ?_
        rw [nI_add]
        refine va_sld hx hb hX hbl hbA hS (vp_in_nI (by omega) (by omega)) dL_law_394 ?_
        refine vz_call2 (rest := [.int r]) ⟨hx, hb, hml, hown, hts⟩ hN hKM hA (kX3_valid hG) (cwV 1 hts gL_law_X3_valid rfl rfl rfl (by decide +kernel) ⟨Nat.le_of_ble_eq_true rfl, Nat.le_of_ble_eq_true rfl⟩) 0 3 rfl rfl rfl hl.1 rfl (Nat.le_of_ble_eq_true rfl) dL_law_395 ⟨Nat.le_of_ble_eq_true rfl, Nat.le_of_ble_eq_true rfl⟩ hP' hD' hS hP (hap' _ _) (fun H locs hP' hD' hP hS => ?_)
        refine lv_icmp_eq (tgt := 465) hx hb dL_law_398 (by decide) (fun c2 => ?_) (fun c2 => absurd rfl c2)
        exact next u2 v2 H locs ls hR2 hP hD hP' hD' hS hl
      · refine lv_tableIn (tgt := 403) hx hb dL_law_52 (by decide) (by decide) (off := 351) (by decide) (by decide) ?_
        obtain ⟨r, u2, v2, hF, hG, hR2⟩ := s_erasures (xs (nI (2 + 3 * t + 1)).toNatClampNeg) t u v ht' hR
        refine lv_aload_n hx hb dL_law_403 rfl (lv_at hl 1 rfl) ?_
        refine lv_aload_n hx hb dL_law_404 rfl (lv_at hl 0 rfl) ?_
        refine lv_iload_n hx hb dL_law_405 rfl (lv_at hl 3 rfl) ?_
        refine lv_iconst (v := nI 1) hx hb dL_law_406 (by decide) ?_
        refine lv_iadd hx hb dL_law_407 ?_
        rw [nI_add]
        refine va_sld hx hb hX hbl hbA hS (vp_in_nI (by omega) (by omega)) dL_law_408 ?_
        refine vz_call2 (rest := []) ⟨hx, hb, hml, hown, hts⟩ hN hKX hA (kX2_erasures hF) (cwV 1 hts gL_law_X2_erasures rfl rfl rfl (by decide +kernel) ⟨Nat.le_of_ble_eq_true rfl, Nat.le_of_ble_eq_true rfl⟩) 0 2 rfl rfl rfl hl.1 rfl (Nat.le_of_ble_eq_true rfl) dL_law_409 ⟨Nat.le_of_ble_eq_true rfl, Nat.le_of_ble_eq_true rfl⟩ hP hD hS hP' (hap _ _) (fun H locs hP hD hP' hS => ?_)
        refine lv_aload_n hx hb dL_law_412 rfl (lv_at hl 2 rfl) ?_
        refine lv_aload_n hx hb dL_law_413 rfl (lv_at hl 0 rfl) ?_
        refine lv_iload_n hx hb dL_law_414 rfl (lv_at hl 3 rfl) ?_
        refine lv_iconst (v := nI 1) hx hb dL_law_415 (by decide) ?_
        refine lv_iadd hx hb dL_law_416 ?_
        rw [nI_add]
        refine va_sld hx hb hX hbl hbA hS (vp_in_nI (by omega) (by omega)) dL_law_417 ?_
        refine vz_call2 (rest := [.int r]) ⟨hx, hb, hml, hown, hts⟩ hN hKM hA (kX3_erasures hG) (cwV 1 hts gL_law_X3_erasures rfl rfl rfl (by decide +kernel) ⟨Nat.le_of_ble_eq_true rfl, Nat.le_of_ble_eq_true rfl⟩) 0 3 rfl rfl rfl hl.1 rfl (Nat.le_of_ble_eq_true rfl) dL_law_418 ⟨Nat.le_of_ble_eq_true rfl, Nat.le_of_ble_eq_true rfl⟩ hP' hD' hS hP (hap' _ _) (fun H locs hP' hD' hP hS => ?_)
        refine lv_icmp_eq (tgt := 465) hx hb dL_law_421 (by decide) (fun c2 => ?_) (fun c2 => absurd rfl c2)
        exact next u2 v2 H locs ls hR2 hP hD hP' hD' hS hl
      · refine lv_tableIn (tgt := 426) hx hb dL_law_52 (by decide) (by decide) (off := 374) (by decide) (by decide) ?_
        obtain ⟨r, u2, v2, hF, hG, hR2⟩ := s_open t u v ht' hR
        refine lv_aload_n hx hb dL_law_426 rfl (lv_at hl 1 rfl) ?_
        refine vz_call2 (rest := []) ⟨hx, hb, hml, hown, hts⟩ hN hKX hA (kX2_open hF) (cwV 0 hts gL_law_X2_open rfl rfl rfl (by decide +kernel) ⟨Nat.le_of_ble_eq_true rfl, Nat.le_of_ble_eq_true rfl⟩) 0 2 rfl rfl rfl hl.1 rfl (Nat.le_of_ble_eq_true rfl) dL_law_427 ⟨Nat.le_of_ble_eq_true rfl, Nat.le_of_ble_eq_true rfl⟩ hP hD hS hP' (hap _ _) (fun H locs hP hD hP' hS => ?_)
        refine lv_aload_n hx hb dL_law_430 rfl (lv_at hl 2 rfl) ?_
        refine vz_call2 (rest := [.int r]) ⟨hx, hb, hml, hown, hts⟩ hN hKM hA (kX3_open hG) (cwV 0 hts gL_law_X3_open rfl rfl rfl (by decide +kernel) ⟨Nat.le_of_ble_eq_true rfl, Nat.le_of_ble_eq_true rfl⟩) 0 3 rfl rfl rfl hl.1 rfl (Nat.le_of_ble_eq_true rfl) dL_law_431 ⟨Nat.le_of_ble_eq_true rfl, Nat.le_of_ble_eq_true rfl⟩ hP' hD' hS hP (hap' _ _) (fun H locs hP' hD' hP hS => ?_)
        refine lv_icmp_eq (tgt := 465) hx hb dL_law_434 (by decide) (fun c2 => ?_) (fun c2 => absurd rfl c2)
        exact next u2 v2 H locs ls hR2 hP hD hP' hD' hS hl
      · refine lv_tableIn (tgt := 439) hx hb dL_law_52 (by decide) (by decide) (off := 387) (by decide) (by decide) ?_
        obtain ⟨r, u2, v2, hF, hG, hR2⟩ := s_free t u v ht' hR
        refine lv_aload_n hx hb dL_law_439 rfl (lv_at hl 1 rfl) ?_
        refine vz_call2 (rest := []) ⟨hx, hb, hml, hown, hts⟩ hN hKX hA (kX2_free hF) (cwV 0 hts gL_law_X2_free rfl rfl rfl (by decide +kernel) ⟨Nat.le_of_ble_eq_true rfl, Nat.le_of_ble_eq_true rfl⟩) 0 2 rfl rfl rfl hl.1 rfl (Nat.le_of_ble_eq_true rfl) dL_law_440 ⟨Nat.le_of_ble_eq_true rfl, Nat.le_of_ble_eq_true rfl⟩ hP hD hS hP' (hap _ _) (fun H locs hP hD hP' hS => ?_)
        refine lv_aload_n hx hb dL_law_443 rfl (lv_at hl 2 rfl) ?_
        refine vz_call2 (rest := [.int r]) ⟨hx, hb, hml, hown, hts⟩ hN hKM hA (kX3_free hG) (cwV 0 hts gL_law_X3_free rfl rfl rfl (by decide +kernel) ⟨Nat.le_of_ble_eq_true rfl, Nat.le_of_ble_eq_true rfl⟩) 0 3 rfl rfl rfl hl.1 rfl (Nat.le_of_ble_eq_true rfl) dL_law_444 ⟨Nat.le_of_ble_eq_true rfl, Nat.le_of_ble_eq_true rfl⟩ hP' hD' hS hP (hap' _ _) (fun H locs hP' hD' hP hS => ?_)
        refine lv_icmp_eq (tgt := 465) hx hb dL_law_447 (by decide) (fun c2 => ?_) (fun c2 => absurd rfl c2)
        exact next u2 v2 H locs ls hR2 hP hD hP' hD' hS hl
      · refine lv_tableIn (tgt := 452) hx hb dL_law_52 (by decide) (by decide) (off := 400) (by decide) (by decide) ?_
        obtain ⟨r, u2, v2, hF, hG, hR2⟩ := s_operations t u v ht' hR
        refine lv_aload_n hx hb dL_law_452 rfl (lv_at hl 1 rfl) ?_
        refine vz_call2 (rest := []) ⟨hx, hb, hml, hown, hts⟩ hN hKX hA (kX2_operations hF) (cwV 0 hts gL_law_X2_operations rfl rfl rfl (by decide +kernel) ⟨Nat.le_of_ble_eq_true rfl, Nat.le_of_ble_eq_true rfl⟩) 0 2 rfl rfl rfl hl.1 rfl (Nat.le_of_ble_eq_true rfl) dL_law_453 ⟨Nat.le_of_ble_eq_true rfl, Nat.le_of_ble_eq_true rfl⟩ hP hD hS hP' (hap _ _) (fun H locs hP hD hP' hS => ?_)
        refine lv_aload_n hx hb dL_law_456 rfl (lv_at hl 2 rfl) ?_
        refine vz_call2 (rest := [.int r]) ⟨hx, hb, hml, hown, hts⟩ hN hKM hA (kX3_operations hG) (cwV 0 hts gL_law_X3_operations rfl rfl rfl (by decide +kernel) ⟨Nat.le_of_ble_eq_true rfl, Nat.le_of_ble_eq_true rfl⟩) 0 3 rfl rfl rfl hl.1 rfl (Nat.le_of_ble_eq_true rfl) dL_law_457 ⟨Nat.le_of_ble_eq_true rfl, Nat.le_of_ble_eq_true rfl⟩ hP' hD' hS hP (hap' _ _) (fun H locs hP' hD' hP hS => ?_)
        refine lv_icmp_eq (tgt := 465) hx hb dL_law_460 (by decide) (fun c2 => ?_) (fun c2 => absurd rfl c2)
        exact next u2 v2 H locs ls hR2 hP hD hP' hD' hS hl
      · refine lv_tableOut (tgt := 465) hx hb dL_law_52 (Or.inr (by rw [nI_toInt (by omega)]; omega)) (by decide) ?_
        exact next u v H locs ls (hmono t u v hR) hP hD hP' hD' hS hl
