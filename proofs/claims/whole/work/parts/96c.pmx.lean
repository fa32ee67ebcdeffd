/-! completing, plain atoms, numbers -/
def numT (T : Nat → Nat) (N : Nat) : Nat → Nat → Nat → Nat × Nat
  | 0, i, v => (v, i)
  | k + 1, i, v => if 48 ≤ chT T N i ∧ chT T N i ≤ 57 then numT T N k (i + 1) (10 * v + (chT T N i - 48)) else (v, i)
theorem numT_le {T : Nat → Nat} {N : Nat} : ∀ k i v b, v + 1 ≤ b → (numT T N k i v).1 + 1 ≤ b * 10 ^ k ∧ i ≤ (numT T N k i v).2 ∧ (i ≤ N → (numT T N k i v).2 ≤ N)
  | 0, i, v, b, h => ⟨by simpa [numT] using h, Nat.le_refl _, fun h => h⟩
  | k + 1, i, v, b, h => by
    unfold numT
    by_cases hd : 48 ≤ chT T N i ∧ chT T N i ≤ 57
    · rw [if_pos hd]
      obtain ⟨h1, h2, h3⟩ := numT_le k (i + 1) (10 * v + (chT T N i - 48)) (10 * b) (by omega)
      have hi := chT_lt (T := T) (N := N) (i := i) (by omega)
      refine ⟨?_, by omega, fun _ => h3 (by omega)⟩
      rw [Nat.pow_succ]
      have e : b * (10 ^ k * 10) = 10 * b * 10 ^ k := by rw [Nat.mul_comm (10 ^ k) 10, ← Nat.mul_assoc, Nat.mul_comm b 10]
      rw [e]; exact h1
    · rw [if_neg hd]
      refine ⟨?_, Nat.le_refl _, fun h => h⟩
      have : b ≤ b * 10 ^ (k + 1) := Nat.le_mul_of_pos_right b (Nat.pow_pos (by omega))
      exact Nat.le_trans h this
theorem num_step {S : zzS} {n : Nat} : F_Rd_number_4 S (n + 1) = F_Rd_number_4_b S (F_Rd_number_4 S n) := rfl
theorem c_num {S : zzS} {T : Nat → Nat} {N : Nat} : ∀ (k n i v : Nat) (M : zzM), k ≤ 4 → k < n → rcC S M T N → zzI M 23 2 = nI i → i ≤ N → v < 10 ^ (4 - k) → ∃ M1, F_Rd_number_4 S n M 23 (nI v) (nI (4 - k)) = some (nI (numT T N k i v).1, M1) ∧ (M1 = M ∧ (numT T N k i v).2 = i ∨ M1 = zzsI M 23 2 (nI (numT T N k i v).2))
  | 0, n + 1, i, v, M, hk, hn, hr, hh, hi, hv => by
    refine ⟨M, ?_, Or.inl ⟨rfl, rfl⟩⟩
    rw [num_step]
    simp only [F_Rd_number_4_b]
    exact if_pos (by decide)
  | k + 1, n + 1, i, v, M, hk, hn, hr, hh, hi, hv => by
    have hr0 := hr
    obtain ⟨h1, h2, h3, h4, h5, h6⟩ := hr
    rw [num_step]
    simp only [F_Rd_number_4_b, if_neg (show ¬ (4 : Int32) ≤ nI (4 - (k + 1)) from nI_ge (b := 4) (by omega) (by omega)), plet, hh, h4]
    unfold numT
    by_cases hlt : i < N
    · have hT : T i < 1000 := by have := (h6 i hlt).2; unfold okc at this; omega
      have hc : chT T N i = T i := if_pos hlt
      simp only [if_neg (nI_ge hlt (show N < 2 ^ 31 by omega)), h3, cr_1 h1, pix (cn_1 h1) (show i < 400 by omega) (by omega), pnI (show i < 100000 by omega), (h6 i hlt).1, hc]
      by_cases hd : 48 ≤ T i ∧ T i ≤ 57
      · rw [if_pos hd]
        have e1 : nI (T i) - (48 : Int32) = nI (T i - 48) := psub (b := 48) hd.1
        have hv4 : v < 10000 := Nat.lt_of_lt_of_le hv (Nat.le_trans (Nat.pow_le_pow_right (by omega) (show 4 - (k + 1) ≤ 4 by omega)) (by decide))
        have e2 : nI v * (10 : Int32) + nI (T i - 48) = nI (10 * v + (T i - 48)) := by show nI v * nI 10 + _ = _; rw [nI_mul, nI_add, Nat.mul_comm]
        have e3 : nI (4 - (k + 1)) + (1 : Int32) = nI (4 - k) := by rw [← nI_succ]; congr 1; omega
        rw [e1, if_neg (nI_pos (by omega)), if_pos (show nI (T i - 48) ≤ (9 : Int32) from nI_le (b := 9) (by omega) (by omega)), e2, e3, ← nI_succ]
        obtain ⟨M1, a1, a2⟩ := c_num k n (i + 1) (10 * v + (T i - 48)) (zzsI M 23 2 (nI (i + 1))) (by omega) (by omega) (hr0.go (frE_h _)) (by simp [plet, pcall, pck, pI_I, pI_L, pI_R, pL_I, pL_L, pL_R, pR_I, pR_L, pR_R]) (by omega) (by
          have : 10 ^ (4 - k) = 10 * 10 ^ (4 - (k + 1)) := by rw [show 4 - k = (4 - (k + 1)) + 1 by omega, Nat.pow_succ, Nat.mul_comm]
          omega)
        refine ⟨M1, a1, Or.inr ?_⟩
        rcases a2 with ⟨b1, b2⟩ | b1
        · rw [b1, b2]
        · rw [b1]
          unfold zzsI zz2
          congr 1
          funext b j
          by_cases hb : b = 23
          · by_cases hj : j = 2
            · simp [hb, hj]
            · simp [hb, hj]
          · simp [hb]
      · rw [if_neg hd]
        refine ⟨M, ?_, Or.inl ⟨rfl, rfl⟩⟩
        by_cases h48 : T i < 48
        · rw [if_pos (show nI (T i) - (48 : Int32) < 0 from pk_sneg (b := 48) (by omega) h48)]
        · have e1 : nI (T i) - (48 : Int32) = nI (T i - 48) := psub (b := 48) (by omega)
          rw [e1, if_neg (nI_pos (by omega)), if_neg (show ¬ nI (T i - 48) ≤ (9 : Int32) from nI_ge (a := 9) (by omega) (by omega))]
    · have hc : chT T N i = 0 := if_neg hlt
      rw [if_pos (nI_le (show N ≤ i by omega) (by omega)), hc, if_neg (by omega)]
      exact ⟨M, rfl, Or.inl ⟨rfl, rfl⟩⟩
theorem c_isDigit (S : zzS) (M : zzM) {x : Nat} (hx : x < 1000) : F_Rd_isDigit S M (nI x) = some (if 48 ≤ x ∧ x ≤ 57 then 1 else 0, M) := by
  simp only [F_Rd_isDigit, show (48 : Int32) = nI 48 from rfl, show (57 : Int32) = nI 57 from rfl, plt (show x < 100000 by omega) (show 48 < 100000 by omega), plt (show 57 < 100000 by omega) (show x < 100000 by omega)]
  by_cases h1 : x < 48
  · rw [if_pos h1, if_neg (by omega)]
  · by_cases h2 : 57 < x
    · rw [if_neg h1, if_pos h2, if_neg (by omega)]
    · rw [if_neg h1, if_neg h2, if_pos (by omega)]
theorem c_isVar (S : zzS) (M : zzM) {x : Nat} (hx : x < 1000) : F_Rd_isVariable S M (nI x) = some (if 97 ≤ x ∧ x ≤ 122 then 1 else 0, M) := by
  simp only [F_Rd_isVariable, show (97 : Int32) = nI 97 from rfl, show (122 : Int32) = nI 122 from rfl, plt (show x < 100000 by omega) (show 97 < 100000 by omega), plt (show 122 < 100000 by omega) (show x < 100000 by omega)]
  by_cases h1 : x < 97
  · rw [if_pos h1, if_neg (by omega)]
  · by_cases h2 : 122 < x
    · rw [if_neg h1, if_pos h2, if_neg (by omega)]
    · rw [if_neg h1, if_neg h2, if_pos (by omega)]
theorem c_isFun (S : zzS) (M : zzM) {x : Nat} (hx : x < 1000) : F_Rd_isFunction S M (nI x) = some (if 65 ≤ x ∧ x ≤ 90 then 1 else 0, M) := by
  simp only [F_Rd_isFunction, show (65 : Int32) = nI 65 from rfl, show (90 : Int32) = nI 90 from rfl, plt (show x < 100000 by omega) (show 65 < 100000 by omega), plt (show 90 < 100000 by omega) (show x < 100000 by omega)]
  by_cases h1 : x < 65
  · rw [if_pos h1, if_neg (by omega)]
  · by_cases h2 : 90 < x
    · rw [if_neg h1, if_pos h2, if_neg (by omega)]
    · rw [if_neg h1, if_neg h2, if_pos (by omega)]
/-- the reference's position moved -/
theorem mX.at {M : zzM} {T : Nat → Nat} {N w q i d : Nat} {cs : List (Int32 × Int32)} {σ : List Nat} (h : mX M T N w q i cs σ d) (i2 : Nat) : mX (zzsI M 28 16 (nI i2)) T N w q i2 cs σ d := by
  obtain ⟨h1, h2, h3, h4, h5, h6, h7, h8⟩ := h
  refine ⟨h1.go (frX_s (q := q) _ (by omega)), by simp [plet, pcall, pck, pI_I, pI_L, pI_R, pL_I, pL_L, pL_R, pR_I, pR_L, pR_R], by simp [plet, pcall, pck, pI_I, pI_L, pI_R, pL_I, pL_L, pL_R, pR_I, pR_L, pR_R, h3], by simp [plet, pcall, pck, pI_I, pI_L, pI_R, pL_I, pL_L, pL_R, pR_I, pR_L, pR_R, h4], fun k x hk => ?_, by simp [plet, pcall, pck, pI_I, pI_L, pI_R, pL_I, pL_L, pL_R, pR_I, pR_L, pR_R, h6], h7, by simp [plet, pcall, pck, pI_I, pI_L, pI_R, pL_I, pL_L, pL_R, pR_I, pR_L, pR_R, h8]⟩
  simp only [plet, pcall, pck, pI_I, pI_L, pI_R, pL_I, pL_L, pL_R, pR_I, pR_L, pR_R, if_neg (show ¬ 39 = 28 by decide), if_neg (show ¬ 40 = 28 by decide)]
  exact h5 k x hk
theorem mX.pop {M : zzM} {T : Nat → Nat} {N w q i d u : Nat} {cs : List (Int32 × Int32)} {σ : List Nat} (h : mX M T N w q i cs (u :: σ) (d + 1)) : mX (zzsI (zzsI M 28 25 (nI σ.length)) 28 27 (nI d)) T N w q i cs σ d ∧ frX w q M (zzsI (zzsI M 28 25 (nI σ.length)) 28 27 (nI d)) := by
  obtain ⟨h1, h2, h3, h4, h5, h6, h7, h8⟩ := h
  have hf : frX w q M (zzsI (zzsI M 28 25 (nI σ.length)) 28 27 (nI d)) := (frX_s _ (by omega)).tr (frX_s _ (by omega))
  refine ⟨⟨h1.go hf, by simp [plet, pcall, pck, pI_I, pI_L, pI_R, pL_I, pL_L, pL_R, pR_I, pR_L, pR_R, h2], by simp [plet, pcall, pck, pI_I, pI_L, pI_R, pL_I, pL_L, pL_R, pR_I, pR_L, pR_R, h3], by simp [plet, pcall, pck, pI_I, pI_L, pI_R, pL_I, pL_L, pL_R, pR_I, pR_L, pR_R, h4], fun k x hk => ?_, by simp [plet, pcall, pck, pI_I, pI_L, pI_R, pL_I, pL_L, pL_R, pR_I, pR_L, pR_R], h7.2, by simp [plet, pcall, pck, pI_I, pI_L, pI_R, pL_I, pL_L, pL_R, pR_I, pR_L, pR_R]⟩, hf⟩
  simp only [plet, pcall, pck, pI_I, pI_L, pI_R, pL_I, pL_L, pL_R, pR_I, pR_L, pR_R, if_neg (show ¬ 39 = 28 by decide), if_neg (show ¬ 40 = 28 by decide)]
  exact h5 k x hk
theorem rcM.ok {M : zzM} {T : Nat → Nat} {N w : Nat} (h : rcM M T N w) : ∀ i, i < N → okc (T i) := fun i hi => (h.2.2.2.2.2 i hi).2
theorem m_expect {M : zzM} {T : Nat → Nat} {N w i v : Nat} (h : rcM M T N w) (hh : zzI M 28 16 = nI i) (hi : i < 1000) (hw : zzI M 28 17 = -1) (hv : v < 1000) (hv0 : v ≠ 0) : F_Md_expect lwSm M 28 (nI v) = if chT T N i = v then some ((), zzsI M 28 16 (nI (i + 1))) else some ((), zzsI M 28 17 (nI i)) := by
  simp only [F_Md_expect, plet, hw, if_true, m_peek h hh hi, pcall, chM_eq h.ok hv hv0, hh, ← nI_succ]
theorem m_expect_w {M : zzM} {v : Int32} (hw : zzI M 28 17 ≠ -1) : F_Md_expect lwSm M 28 v = some ((), M) := by
  simp only [F_Md_expect, plet, if_neg hw]
theorem nI_m1 {i : Nat} (hi : i < 100000) : nI i ≠ -1 := fun e => by
  have h1 := nI_pos (n := i) (by omega)
  rw [e] at h1
  exact h1 (by decide)
theorem cmp_step {S : zzS} {n : Nat} : F_Md_complete_0 S (n + 1) = F_Md_complete_0_b S (F_Md_complete_0 S n) := rfl
theorem cmp_w {M : zzM} {g : Nat} (hw : zzI M 28 17 ≠ -1) : F_Md_complete_0 lwSm (g + 1) M 28 = some ((), M) := by
  rw [cmp_step]
  simp only [F_Md_complete_0_b, plet, if_neg hw]
theorem cmp_stop {M : zzM} {T : Nat → Nat} {N w q i d g : Nat} {cs : List (Int32 × Int32)} {σ : List Nat} (h : mX M T N w q i cs σ d) (hl : σ.length < 60) (hσ : ∀ x r, σ = x :: r → x < 128 ∧ x ≠ 95 ∧ x ≠ 39 ∧ x ≠ 64) : F_Md_complete_0 lwSm (g + 1) M 28 = some ((), M) := by
  obtain ⟨h1, h2, h3, h4, h5, h6, h7, h8⟩ := h
  rw [cmp_step]
  cases σ with
  | nil =>
    simp only [F_Md_complete_0_b, plet, h3, h6, if_true]
    exact if_pos (by decide)
  | cons x r =>
    obtain ⟨e0, e1, e2, e3⟩ := hσ x r rfl
    simp only [List.length_cons] at h6 hl
    have n1 : ¬ nI x = 95 := fun e => e1 ((peq (by omega) (by omega)).mp (show nI x = nI 95 from e))
    have n2 : ¬ nI x = 39 := fun e => e2 ((peq (by omega) (by omega)).mp (show nI x = nI 39 from e))
    have n3 : ¬ nI x = 64 := fun e => e3 ((peq (by omega) (by omega)).mp (show nI x = nI 64 from e))
    simp only [F_Md_complete_0_b, plet, h3, h6, if_true, if_neg (nI_nle (show 0 < r.length + 1 by omega) (by omega)), mR_26 h1.1, mr_44, nI_pred, pix (S := lwSm) mn_44 (show r.length < 64 by omega) (by omega), pnI (show r.length < 100000 by omega), h7.1, if_neg n1, if_neg n2, if_neg n3]
theorem cmp_63 {M : zzM} {T : Nat → Nat} {N w q i d g u : Nat} {cs : List (Int32 × Int32)} {σ : List Nat} (h : mX M T N w q i cs (u :: σ) d) (hl : σ.length < 50) (hu : u = 95 ∨ u = 39 ∨ u = 64) : F_Md_complete_0 lwSm (g + 1) M 28 = F_Md_complete_63 lwSm (F_Md_complete_0 lwSm g) M 28 := by
  obtain ⟨h1, h2, h3, h4, h5, h6, h7, h8⟩ := h
  rw [cmp_step]
  simp only [List.length_cons] at h6
  simp only [F_Md_complete_0_b, plet, h3, h6, if_true, if_neg (nI_nle (show 0 < σ.length + 1 by omega) (by omega)), mR_26 h1.1, mr_44, nI_pred, pix (S := lwSm) mn_44 (show σ.length < 64 by omega) (by omega), pnI (show σ.length < 100000 by omega), h7.1]
  rcases hu with rfl | rfl | rfl <;> rfl
theorem cmp_132 {M : zzM} {T : Nat → Nat} {N w q i d u : Nat} {v : Int32} {cs : List (Int32 × Int32)} {σ : List Nat} {k0 : zzM → Nat → Option (Unit × zzM)} (h : mX M T N w q i cs (u :: σ) (d + 1)) (hb : q + cs.length < 1000) : ∃ M1, F_Md_complete_132 lwSm k0 M 28 (nI u) v = k0 M1 28 ∧ frX w q M M1 ∧ mX M1 T N w q i (cs ++ [(nI u, v)]) σ d := by
  obtain ⟨M1, a1, a2, a3⟩ := m_code h hb (nI u) v
  obtain ⟨b1, b2⟩ := a3.pop
  refine ⟨_, ?_, a2.tr b2, b1⟩
  have h25 := a3.2.2.2.2.2.1
  have h27 := a3.2.2.2.2.2.2.2
  simp only [List.length_cons] at h25
  simp only [F_Md_complete_132, plet, h.2.2.1, if_true, a1, pcall, h25, nI_pred, plet, pcall, pck, pI_I, pI_L, pI_R, pL_I, pL_L, pL_R, pR_I, pR_L, pR_R, if_neg (show ¬ 27 = 25 by decide), h27]
theorem cmp_9539 {M : zzM} {T : Nat → Nat} {N w q i d g u : Nat} {cs : List (Int32 × Int32)} {σ : List Nat} (h : mX M T N w q i cs (u :: σ) (d + 1)) (hl : σ.length < 50) (hb : q + cs.length < 1000) (hu : u = 95 ∨ u = 39) : ∃ M1, F_Md_complete_0 lwSm (g + 1) M 28 = F_Md_complete_0 lwSm g M1 28 ∧ frX w q M M1 ∧ mX M1 T N w q i (cs ++ [(nI u, 0)]) σ d := by
  obtain ⟨M1, a1, a2, a3⟩ := cmp_132 (k0 := F_Md_complete_0 lwSm g) (v := 0) h hb
  refine ⟨M1, ?_, a2, a3⟩
  rw [cmp_63 h hl (by omega), ← a1]
  obtain ⟨h1, h2, h3, h4, h5, h6, h7, h8⟩ := h
  simp only [List.length_cons] at h6
  have n3 : ¬ nI u = 64 := fun e => by
    have := (peq (by omega) (by omega)).mp (show nI u = nI 64 from e)
    omega
  simp only [F_Md_complete_63, plet, mR_26 h1.1, mr_44, h6, nI_pred, pix (S := lwSm) mn_44 (show σ.length < 64 by omega) (by omega), pnI (show σ.length < 100000 by omega), h7.1, if_neg n3]
/-- @: behind its atom -/
theorem cmp_64 {M : zzM} {T : Nat → Nat} {N w q i d g : Nat} {cs : List (Int32 × Int32)} {σ : List Nat} (h : mX M T N w q i cs (64 :: σ) (d + 1)) (hl : σ.length < 50) (hb : q + cs.length < 1000) (hi : i ≤ 400) :
    (chT T N i = 58 ∧ 48 ≤ chT T N (i + 1) ∧ chT T N (i + 1) ≤ 53 ∧ ∃ M1, F_Md_complete_0 lwSm (g + 1) M 28 = F_Md_complete_0 lwSm g M1 28 ∧ frX w q M M1 ∧ mX M1 T N w q (i + 2) (cs ++ [(nI 64, nI (chT T N (i + 1) - 48))]) σ d)
    ∨ (∃ p M1, ((chT T N i ≠ 58 ∧ p = i) ∨ (chT T N i = 58 ∧ ¬ (48 ≤ chT T N (i + 1) ∧ chT T N (i + 1) ≤ 53) ∧ p = i + 1)) ∧ F_Md_complete_0 lwSm (g + 1) M 28 = some ((), M1) ∧ frX w q M M1 ∧ zzI M1 28 17 = nI p ∧ ∃ j, j < 1000 ∧ zzI M1 28 16 = nI j) := by
  have h0 := h
  obtain ⟨h1, h2, h3, h4, h5, h6, h7, h8⟩ := h
  have hok := h1.ok
  simp only [List.length_cons] at h6
  have e63 : F_Md_complete_0 lwSm (g + 1) M 28 = zzcall (F_Md_expect lwSm M 28 (nI 58)) fun r5 M => zzcall (F_Md_peek lwSm M 28) fun r6 M => zzlet (r6 - (48 : Int32)) fun x7 => zzlet (zzI M 28 17) fun x8 => if x8 = (-1 : Int32) then (if x7 < 0 then (F_Md_complete_114 lwSm (F_Md_complete_0 lwSm g) M 28 (nI 64) x7) else (if x7 ≤ (5 : Int32) then (F_Md_complete_122 lwSm (F_Md_complete_0 lwSm g) M 28 (nI 64) x7) else (F_Md_complete_114 lwSm (F_Md_complete_0 lwSm g) M 28 (nI 64) x7))) else (F_Md_complete_122 lwSm (F_Md_complete_0 lwSm g) M 28 (nI 64) x7) := by
    rw [cmp_63 h0 hl (by omega)]
    simp only [F_Md_complete_63, plet, mR_26 h1.1, mr_44, h6, nI_pred, pix (S := lwSm) mn_44 (show σ.length < 64 by omega) (by omega), pnI (show σ.length < 100000 by omega), h7.1]
    rfl
  rw [e63, m_expect h1 h2 (by omega) h3 (by omega) (by omega)]
  by_cases hc : chT T N i = 58
  · rw [if_pos hc, pcall]
    have hX1 := h0.at (i + 1)
    rw [m_peek hX1.1 hX1.2.1 (by omega), pcall, plet, plet, hX1.2.2.1, if_pos rfl]
    by_cases hd : 48 ≤ chT T N (i + 1) ∧ chT T N (i + 1) ≤ 53
    · obtain ⟨hlt, hcx⟩ := chT_lt (T := T) (N := N) (i := i + 1) (by omega)
      have ec : chM T N (i + 1) = nI (chT T N (i + 1)) := by unfold chM; rw [if_pos hlt, hcx]
      have e1 : nI (chT T N (i + 1)) - (48 : Int32) = nI (chT T N (i + 1) - 48) := psub (b := 48) hd.1
      rw [ec, e1, if_neg (nI_pos (by omega)), if_pos (show nI (chT T N (i + 1) - 48) ≤ (5 : Int32) from nI_le (b := 5) (by omega) (by omega))]
      obtain ⟨M1, a1, a2, a3⟩ := cmp_132 (k0 := F_Md_complete_0 lwSm g) (v := nI (chT T N (i + 1) - 48)) (hX1.at (i + 2)) hb
      refine Or.inl ⟨hc, hd.1, hd.2, M1, ?_, ((frX_s _ (by omega)).tr (frX_s _ (by omega))).tr a2, a3⟩
      simp only [F_Md_complete_122, plet, hX1.2.1, ← nI_succ]
      exact a1
    · refine Or.inr ⟨i + 1, zzsI (zzsI (zzsI M 28 16 (nI (i + 1))) 28 17 (nI (i + 1))) 28 16 (nI (i + 2)), Or.inr ⟨hc, hd, rfl⟩, ?_, ((frX_s _ (by omega)).tr (frX_s _ (by omega))).tr (frX_s _ (by omega)), by simp [plet, pcall, pck, pI_I, pI_L, pI_R, pL_I, pL_L, pL_R, pR_I, pR_L, pR_R], i + 2, by omega, by simp [plet, pcall, pck, pI_I, pI_L, pI_R, pL_I, pL_L, pL_R, pR_I, pR_L, pR_R]⟩
      have e114 : ∀ v, F_Md_complete_114 lwSm (F_Md_complete_0 lwSm g) (zzsI M 28 16 (nI (i + 1))) 28 (nI 64) v = some ((), zzsI (zzsI (zzsI M 28 16 (nI (i + 1))) 28 17 (nI (i + 1))) 28 16 (nI (i + 2))) := fun v => by
        simp only [F_Md_complete_114, F_Md_complete_122, F_Md_complete_132, plet, plet, pcall, pck, pI_I, pI_L, pI_R, pL_I, pL_L, pL_R, pR_I, pR_L, pR_R, if_true, if_neg (show ¬ 16 = 17 by decide), if_neg (show ¬ 17 = 16 by decide), if_neg (nI_m1 (show i + 1 < 100000 by omega)), ← nI_succ]
      by_cases hlt : i + 1 < N
      · have hT : T (i + 1) < 1000 := by have := hok (i + 1) hlt; unfold okc at this; omega
        have hcx : chT T N (i + 1) = T (i + 1) := if_pos hlt
        have ec : chM T N (i + 1) = nI (T (i + 1)) := if_pos hlt
        rw [ec]
        rw [hcx] at hd
        by_cases h48 : T (i + 1) < 48
        · rw [if_pos (show nI (T (i + 1)) - (48 : Int32) < 0 from pk_sneg (b := 48) (by omega) h48)]
          exact e114 _
        · have e1 : nI (T (i + 1)) - (48 : Int32) = nI (T (i + 1) - 48) := psub (b := 48) (by omega)
          rw [e1, if_neg (nI_pos (by omega)), if_neg (show ¬ nI (T (i + 1) - 48) ≤ (5 : Int32) from nI_ge (a := 5) (by omega) (by omega))]
          exact e114 _
      · have ec : chM T N (i + 1) = -1 := if_neg hlt
        rw [ec, if_pos (by decide)]
        exact e114 _
  · rw [if_neg hc, pcall]
    have hR1 : rcM (zzsI M 28 17 (nI i)) T N w := h1.go (frX_s (q := q) _ (by omega))
    rw [m_peek hR1 (show zzI (zzsI M 28 17 (nI i)) 28 16 = nI i from h2) (by omega), pcall, plet, plet]
    have hz : zzI (zzsI M 28 17 (nI i)) 28 17 = nI i := rfl
    rw [hz, if_neg (nI_m1 (show i < 100000 by omega))]
    refine Or.inr ⟨i, zzsI (zzsI M 28 17 (nI i)) 28 16 (nI (i + 1)), Or.inl ⟨hc, rfl⟩, ?_, (frX_s _ (by omega)).tr (frX_s _ (by omega)), rfl, i + 1, by omega, rfl⟩
    have h16 : zzI (zzsI M 28 17 (nI i)) 28 16 = nI i := h2
    simp only [F_Md_complete_122, F_Md_complete_132, plet, h16, ← nI_succ]
    have hz2 : zzI (zzsI (zzsI M 28 17 (nI i)) 28 16 (nI (i + 1))) 28 17 = nI i := rfl
    rw [hz2, if_neg (nI_m1 (show i < 100000 by omega))]
