/-! plain atoms and the steps of the reading loop -/
theorem rp_step {S : zzS} {n : Nat} : F_Md_readPlain_16 S (n + 1) = F_Md_readPlain_16_b S (F_Md_readPlain_16 S n) := rfl
theorem m_num {T : Nat → Nat} {N w q d : Nat} {cs : List (Int32 × Int32)} {σ : List Nat} : ∀ (k n i v : Nat) (M : zzM), k ≤ 4 → k < n → mX M T N w q i cs σ d → i ≤ 400 → v < 10 ^ (4 - k) → ∃ M1, F_Md_readPlain_16 lwSm n M 28 (nI v) (nI (4 - k)) = zzcall (F_Md_code lwSm M1 28 48 (nI (numT T N k i v).1)) (fun _ M => zzcall (F_Md_complete lwSm M 28) fun _ M => some ((), M)) ∧ mX M1 T N w q (numT T N k i v).2 cs σ d ∧ frX w q M M1
  | 0, n + 1, i, v, M, hk, hn, hX, hi, hv => by
    refine ⟨M, ?_, hX, frX.rf _ _ _⟩
    rw [rp_step]
    simp only [F_Md_readPlain_16_b]
    exact if_pos (by decide)
  | k + 1, n + 1, i, v, M, hk, hn, hX, hi, hv => by
    have hok := hX.1.ok
    rw [rp_step]
    simp only [F_Md_readPlain_16_b, if_neg (show ¬ (4 : Int32) ≤ nI (4 - (k + 1)) from nI_ge (b := 4) (by omega) (by omega)), m_peek hX.1 hX.2.1 (show i < 1000 by omega), pcall, plet]
    unfold numT
    by_cases hd : 48 ≤ chT T N i ∧ chT T N i ≤ 57
    · rw [if_pos hd, m_isDigit_y hok _ _ hd, pcall, if_neg (by decide)]
      obtain ⟨hlt, hcx⟩ := chT_lt (T := T) (N := N) (i := i) (by omega)
      have hN := hX.1.2.2.2.2.1
      have ec : chM T N i = nI (chT T N i) := by unfold chM; rw [if_pos hlt, hcx]
      have hv4 : v < 10000 := Nat.lt_of_lt_of_le hv (Nat.le_trans (Nat.pow_le_pow_right (by omega) (show 4 - (k + 1) ≤ 4 by omega)) (by decide))
      have e2 : (10 : Int32) * nI v + nI (chT T N i) - (48 : Int32) = nI (10 * v + (chT T N i - 48)) := by
        show nI 10 * nI v + nI (chT T N i) - nI 48 = _
        rw [nI_mul, nI_add, psub (by omega)]
        congr 1
        omega
      have e3 : nI (4 - (k + 1)) + (1 : Int32) = nI (4 - k) := by rw [← nI_succ]; congr 1; omega
      rw [m_peek hX.1 hX.2.1 (show i < 1000 by omega), pcall, ec, e2, e3, hX.2.1, ← nI_succ]
      obtain ⟨M1, a1, a2, a3⟩ := m_num k n (i + 1) (10 * v + (chT T N i - 48)) (zzsI M 28 16 (nI (i + 1))) (by omega) (by omega) (hX.at (i + 1)) (by omega) (by
        have : 10 ^ (4 - k) = 10 * 10 ^ (4 - (k + 1)) := by rw [show 4 - k = (4 - (k + 1)) + 1 by omega, Nat.pow_succ, Nat.mul_comm]
        omega)
      exact ⟨M1, a1, a2, (frX_s _ (by omega)).tr a3⟩
    · rw [if_neg hd, m_isDigit_n hok _ _ hd, pcall, if_pos rfl]
      exact ⟨M, rfl, hX, frX.rf _ _ _⟩
/-- a plain atom at i: its code, and the place behind it -/
def plA (T : Nat → Nat) (N i : Nat) (x : Int32 × Int32) (i2 : Nat) : Prop :=
  (48 ≤ chT T N i ∧ chT T N i ≤ 57 ∧ x = (48, nI (numT T N 4 i 0).1) ∧ i2 = (numT T N 4 i 0).2)
  ∨ (97 ≤ chT T N i ∧ chT T N i ≤ 122 ∧ x = (97, nI (chT T N i - 97)) ∧ i2 = i + 1)
  ∨ (chT T N i = 35 ∧ x = (35, 0) ∧ i2 = i + 1)
def isP (x : Nat) : Prop := (48 ≤ x ∧ x ≤ 57) ∨ (97 ≤ x ∧ x ≤ 122) ∨ x = 35
theorem m_plain {M : zzM} {T : Nat → Nat} {N w q i d : Nat} {cs : List (Int32 × Int32)} {σ : List Nat} (h : mX M T N w q i cs σ d) (hi : i ≤ 400) (hb : q + cs.length < 1000) :
    (isP (chT T N i) ∧ ∃ x i2 M1, plA T N i x i2 ∧ F_Md_readPlain lwSm M 28 = zzcall (F_Md_complete_0 lwSm 2000 M1 28) (fun _ M => some ((), M)) ∧ frX w q M M1 ∧ mX M1 T N w q i2 (cs ++ [x]) σ d)
    ∨ (¬ isP (chT T N i) ∧ ∃ M1, F_Md_readPlain lwSm M 28 = some ((), M1) ∧ frX w q M M1 ∧ zzI M1 28 17 = nI i ∧ zzI M1 28 16 = nI i) := by
  have hok := h.1.ok
  have hpk := m_peek h.1 h.2.1 (show i < 1000 by omega)
  by_cases hd : 48 ≤ chT T N i ∧ chT T N i ≤ 57
  · refine Or.inl ⟨Or.inl hd, ?_⟩
    obtain ⟨M1, a1, a2, a3⟩ := m_num 4 2000 i 0 M (by omega) (by omega) h hi (by decide)
    obtain ⟨M2, b1, b2, b3⟩ := m_code a2 hb 48 (nI (numT T N 4 i 0).1)
    refine ⟨_, _, M2, Or.inl ⟨hd.1, hd.2, rfl, rfl⟩, ?_, a3.tr b2, b3⟩
    simp only [F_Md_readPlain, hpk, pcall, m_isDigit_y hok _ _ hd]
    rw [if_neg (by decide)]
    rw [b1, pcall] at a1
    exact a1
  · by_cases hv : 97 ≤ chT T N i ∧ chT T N i ≤ 122
    · refine Or.inl ⟨Or.inr (Or.inl hv), ?_⟩
      obtain ⟨hlt, hcx⟩ := chT_lt (T := T) (N := N) (i := i) (by omega)
      have ec : chM T N i = nI (chT T N i) := by unfold chM; rw [if_pos hlt, hcx]
      have e1 : nI (chT T N i) - (97 : Int32) = nI (chT T N i - 97) := psub (b := 97) hv.1
      obtain ⟨M2, b1, b2, b3⟩ := m_code h hb 97 (nI (chT T N i - 97))
      refine ⟨_, _, zzsI M2 28 16 (nI (i + 1)), Or.inr (Or.inl ⟨hv.1, hv.2, rfl, rfl⟩), ?_, b2.tr (frX_s _ (by omega)), b3.at (i + 1)⟩
      simp only [F_Md_readPlain, hpk, pcall, m_isDigit_n hok _ _ hd, m_isVar_y hok _ _ hv, if_true]
      rw [if_neg (by decide), ec, plet, e1, b1, pcall, b3.2.1, plet, plet, plet, ← nI_succ]
      rfl
    · by_cases h35 : chT T N i = 35
      · refine Or.inl ⟨Or.inr (Or.inr h35), ?_⟩
        obtain ⟨M2, b1, b2, b3⟩ := m_code h hb 35 0
        refine ⟨_, _, zzsI M2 28 16 (nI (i + 1)), Or.inr (Or.inr ⟨h35, rfl, rfl⟩), ?_, b2.tr (frX_s _ (by omega)), b3.at (i + 1)⟩
        simp only [F_Md_readPlain, hpk, pcall, m_isDigit_n hok _ _ hd, m_isVar_n hok _ _ hv, if_true]
        rw [if_pos (show chM T N i = (35 : Int32) from chM_is hok (v := 35) (by omega) (by omega) h35), b1, pcall, b3.2.1, plet, plet, plet, ← nI_succ]
        rfl
      · refine Or.inr ⟨fun hp => ?_, zzsI M 28 17 (nI i), ?_, frX_s _ (by omega), by simp [plet, pcall, pck, pI_I, pI_L, pI_R, pL_I, pL_L, pL_R, pR_I, pR_L, pR_R], h.2.1⟩
        · rcases hp with hp | hp | hp
          · exact hd hp
          · exact hv hp
          · exact h35 hp
        · have hcm : F_Md_complete lwSm (zzsI M 28 17 (nI i)) 28 = some ((), zzsI M 28 17 (nI i)) := cmp_w (g := 1999) (by rw [pI_I, if_pos rfl, if_pos rfl]; exact nI_m1 (by omega))
          simp only [F_Md_readPlain, hpk, pcall, m_isDigit_n hok _ _ hd, m_isVar_n hok _ _ hv, if_true]
          rw [if_neg (show ¬ chM T N i = (35 : Int32) from chM_ne hok (v := 35) (by omega) (by omega) h35), h.2.1, plet, plet, hcm, pcall]
theorem rc_step {wh bg mo wa : Int32} {f : Nat} {M : zzM} : rc wh bg (f + 1) M mo wa = F_Md_readCodes_20_b lwSm (F_Md_readCodes_20 lwSm f) M 28 wh bg mo wa := rfl
theorem rc_w {wh bg mo wa : Int32} {f : Nat} {M : zzM} (hw : zzI M 28 17 ≠ -1) : rc wh bg (f + 1) M mo wa = some (bg, M) := by
  rw [rc_step]
  simp only [F_Md_readCodes_20_b, plet, if_neg hw]
theorem rc_0 {wh bg wa : Int32} {f : Nat} {M : zzM} (hw : zzI M 28 17 = -1) : rc wh bg (f + 1) M 0 wa = zzcall (F_Md_code lwSm M 28 0 0) (fun _ M => some (bg, M)) := by
  rw [rc_step]
  simp only [F_Md_readCodes_20_b, plet, hw, if_true]
def sgU (x : Nat) : Nat := if x = 45 then 95 else x
theorem rc_nest {wh bg : Int32} {M : zzM} {T : Nat → Nat} {N w q i d : Nat} {cs : List (Int32 × Int32)} {σ : List Nat} (h : mX M T N w q i cs σ d) (hi : i ≤ 400) (hn : isN (chT T N i)) (hl : σ.length < 50) : (d < 3 → ∃ M1, (∀ f, rc wh bg (f + 1) M 1 1 = rc wh bg f M1 1 1) ∧ mX M1 T N w q (i + 1) cs (sgU (chT T N i) :: σ) (d + 1) ∧ frX w q M M1) ∧ (d = 3 → ∀ f, rc wh bg (f + 1) M 1 1 = rc wh bg f (zzsI M 28 17 (nI i)) 1 1) := by
  have hok := h.1.ok
  have hpk := m_peek h.1 h.2.1 (show i < 1000 by omega)
  have e : ∀ f, rc wh bg (f + 1) M 1 1 = zzcall (F_Md_nest lwSm M 28 (chM T N i)) (fun _ M => rc wh bg f M 1 1) := fun f => by
    rw [rc_step]
    simp only [F_Md_readCodes_20_b, plet, h.2.2.1, if_true, hpk, pcall, (m_isNest hok lwSm M).1 hn]
    rw [if_neg (by decide), if_neg (by decide), if_neg (by decide)]
  constructor
  · intro hd
    obtain ⟨a1, a2⟩ := h.push (sgU (chT T N i)) (i + 1) (d + 1)
    refine ⟨_, fun f => ?_, a1, a2⟩
    have hne : ¬ nI d = 3 := fun e => by
      have := (peq (by omega) (by omega)).mp (show nI d = nI 3 from e)
      omega
    have e37 : F_Md_nest_37 lwSm M 28 (nI (sgU (chT T N i))) (nI σ.length) 44 = some ((), zzsI (zzsI (zzsI (zzsI M 44 σ.length (nI (sgU (chT T N i)))) 28 25 (nI (σ.length + 1))) 28 27 (nI (d + 1))) 28 16 (nI (i + 1))) := by
      have h25 := h.2.2.2.2.2.1
      have h27 := h.2.2.2.2.2.2.2
      have h16 := h.2.1
      simp only [F_Md_nest_37, pix (S := lwSm) mn_44 (show σ.length < 64 by omega) (by omega), pnI (show σ.length < 100000 by omega), plet, pcall, pck, pI_I, pI_L, pI_R, pL_I, pL_L, pL_R, pR_I, pR_L, pR_R, if_neg (show ¬ 28 = 44 by decide), if_true, if_neg (show ¬ 27 = 25 by decide), if_neg (show ¬ 16 = 25 by decide), if_neg (show ¬ 16 = 27 by decide), h25, h27, h16, ← nI_succ]
    rw [e]
    simp only [F_Md_nest, plet, h.2.2.2.2.2.2.2, if_neg hne, mR_26 h.1.1, mr_44, h.2.2.2.2.2.1]
    by_cases h45 : chT T N i = 45
    · rw [if_pos (show chM T N i = (45 : Int32) from chM_is hok (v := 45) (by omega) (by omega) h45)]
      have : sgU (chT T N i) = 95 := if_pos h45
      rw [this] at e37 ⊢
      rw [show (95 : Int32) = nI 95 from rfl, e37, pcall]
    · rw [if_neg (show ¬ chM T N i = (45 : Int32) from chM_ne hok (v := 45) (by omega) (by omega) h45)]
      have : sgU (chT T N i) = chT T N i := if_neg h45
      rw [this] at e37 ⊢
      have hx0 : chT T N i ≠ 0 := by unfold isN at hn; omega
      obtain ⟨hlt, hcx⟩ := chT_lt hx0
      have ec : chM T N i = nI (chT T N i) := by unfold chM; rw [if_pos hlt, hcx]
      rw [ec, e37, pcall]
  · intro hd f
    subst hd
    rw [e]
    have h27 : zzI M 28 27 = 3 := h.2.2.2.2.2.2.2
    simp only [F_Md_nest, plet, h27, if_true, h.2.1, pcall]
theorem rc_plain {wh bg : Int32} {f : Nat} {M : zzM} {T : Nat → Nat} {N w q i d : Nat} {cs : List (Int32 × Int32)} {σ : List Nat} (h : mX M T N w q i cs σ d) (hi : i ≤ 400) (hn : ¬ isN (chT T N i)) : rc wh bg (f + 1) M 1 1 = zzcall (F_Md_readPlain lwSm M 28) (fun _ M => rc wh bg f M 1 0) := by
  have hok := h.1.ok
  have hpk := m_peek h.1 h.2.1 (show i < 1000 by omega)
  rw [rc_step]
  simp only [F_Md_readCodes_20_b, F_Md_readCodes_60, plet, h.2.2.1, if_true, hpk, pcall, (m_isNest hok lwSm M).2 hn]
  rw [if_neg (by decide), if_neg (by decide), if_neg (by decide)]
theorem rc_91 {wh bg : Int32} {f : Nat} {M : zzM} {T : Nat → Nat} {N w q i d : Nat} {cs : List (Int32 × Int32)} {σ : List Nat} (h : mX M T N w q i cs σ d) (hi : i ≤ 400) (hl : σ.length < 60) (hwh : wh = 1 ∨ σ ≠ []) : rc wh bg (f + 1) M 1 0 = F_Md_readCodes_91 lwSm (F_Md_readCodes_20 lwSm f) M 28 wh bg 1 0 (chM T N i) := by
  have hpk := m_peek h.1 h.2.1 (show i < 1000 by omega)
  rw [rc_step]
  simp only [F_Md_readCodes_20_b, F_Md_readCodes_60, plet, h.2.2.1, if_true, hpk, pcall, h.2.2.2.2.2.1]
  rw [if_neg (show ¬ (1 : Int32) = 0 by decide)]
  by_cases hs : nI σ.length = 0
  · rw [if_pos hs]
    have : σ = [] := by
      cases σ with
      | nil => rfl
      | cons x r => exact absurd hs (nI_ne0 (by simp) (by omega))
    rcases hwh with h1 | h1
    · rw [if_neg (by rw [h1]; decide)]
    · exact absurd this h1
  · rw [if_neg hs]
theorem rc_more {bg : Int32} {f : Nat} {M : zzM} {T : Nat → Nat} {N w q i d : Nat} {cs : List (Int32 × Int32)} (h : mX M T N w q i cs [] d) (hi : i ≤ 400) : rc 0 bg (f + 1) M 1 0 = rc 0 bg f M 0 0 := by
  have hpk := m_peek h.1 h.2.1 (show i < 1000 by omega)
  have h25 : zzI M 28 25 = 0 := h.2.2.2.2.2.1
  rw [rc_step]
  simp only [F_Md_readCodes_20_b, F_Md_readCodes_60, plet, h.2.2.1, if_true, hpk, pcall, h25]
  rw [if_neg (show ¬ (1 : Int32) = 0 by decide)]
/-- an operator taken -/
theorem rc_op {wh bg : Int32} {M : zzM} {T : Nat → Nat} {N w q i d : Nat} {cs : List (Int32 × Int32)} {pend σ : List Nat} (h : mX M T N w q i cs (pend ++ σ) d) (hi : i < N) (hl : (pend ++ σ).length < 50) (hwh : wh = 1 ∨ pend ++ σ ≠ []) (hb : q + cs.length + pend.length < 1000) (hs : 1 ≤ stN (chT T N i)) (hp : ∀ x ∈ pend, x < 128 ∧ x ≠ 40 ∧ stN (chT T N i) ≤ stN x) (hσ : ∀ x r, σ = x :: r → x < 128 ∧ stN x < stN (chT T N i)) (hcmp : stN (chT T N i) = 1 → (∀ x ∈ pend, stN x ≠ 1) ∧ (σ = [] ∨ ∃ r, σ = 40 :: r)) : ∃ M1, (∀ f, rc wh bg (f + 1) M 1 0 = rc wh bg f M1 1 1) ∧ mX M1 T N w q (i + 1) (cs ++ pend.map (fun c => (nI c, 0))) (chT T N i :: σ) d ∧ frX w q M M1 := by
  have hok := h.1.ok
  have hN := h.1.2.2.2.2.1
  have hst := stN_le (chT T N i)
  have e116 : ∀ f, rc wh bg (f + 1) M 1 0 = F_Md_readCodes_116 lwSm (F_Md_readCodes_20 lwSm f) M 28 wh bg 1 (chM T N i) := fun f => by
    rw [rc_91 h (by omega) (by omega) hwh]
    simp only [F_Md_readCodes_91, m_strC hok, pcall]
    by_cases h1 : stN (chT T N i) = 1
    · rw [h1, if_neg (by decide), if_pos (by decide)]
      obtain ⟨c1, c2⟩ := hcmp h1
      have hc := m_hasC (M := M) h.1.1 pend 2000 σ (by simp at hl; omega) h.2.2.2.2.2.2.1 (by omega) (fun x hx => ⟨(hp x hx).1, (hp x hx).2.1⟩) c2
      rw [if_neg (fun ⟨x, hx, e⟩ => c1 x hx e)] at hc
      simp only [F_Md_hasCompare, plet, h.2.2.2.2.2.1, hc, pcall, if_true]
    · rw [if_pos (show (1 : Int32) < nI (stN (chT T N i)) from nI_lt (a := 1) (by omega) (by omega))]
  obtain ⟨M1, a1, a2, a3⟩ := m_drain (s := stN (chT T N i)) (by omega) hσ pend 2000 M cs (by simp at hl; omega) h (fun x hx => ⟨(hp x hx).1, (hp x hx).2.2⟩) hb (by omega)
  have hlt : chT T N i = T i := if_pos hi
  have ec : chM T N i = nI (chT T N i) := by unfold chM; rw [if_pos hi, hlt]
  have hlσ : σ.length < 50 := by simp at hl; omega
  have h25 := a3.2.2.2.2.2.1
  have h16 := a3.2.1
  have hf : frX w q M1 (zzsI (zzsI (zzsI M1 44 σ.length (nI (chT T N i))) 28 25 (nI (σ.length + 1))) 28 16 (nI (i + 1))) := ((frX_g _).tr (frX_s _ (by omega))).tr (frX_s _ (by omega))
  refine ⟨zzsI (zzsI (zzsI M1 44 σ.length (nI (chT T N i))) 28 25 (nI (σ.length + 1))) 28 16 (nI (i + 1)), fun f => ?_, ?_, a2.tr hf⟩
  · rw [e116]
    have ed : F_Md_drain lwSm M 28 (nI (stN (chT T N i))) = some ((), M1) := a1
    simp only [F_Md_readCodes_116, m_strN lwSm M (show chT T N i < 128 by have := chT_le hok i; omega), pcall, ed, mR_26 a3.1.1, mr_44, plet, h25, pix (S := lwSm) mn_44 (show σ.length < 64 by omega) (by omega), pnI (show σ.length < 100000 by omega), ec, plet, pcall, pck, pI_I, pI_L, pI_R, pL_I, pL_L, pL_R, pR_I, pR_L, pR_R, if_neg (show ¬ 28 = 44 by decide), if_true, if_neg (show ¬ 16 = 25 by decide), h16, ← nI_succ]
  · obtain ⟨h1, h2, h3, h4, h5, h6, h7, h8⟩ := a3
    refine ⟨h1.go hf, by simp [plet, pcall, pck, pI_I, pI_L, pI_R, pL_I, pL_L, pL_R, pR_I, pR_L, pR_R], by simp [plet, pcall, pck, pI_I, pI_L, pI_R, pL_I, pL_L, pL_R, pR_I, pR_L, pR_R, h3], by simp only [plet, pcall, pck, pI_I, pI_L, pI_R, pL_I, pL_L, pL_R, pR_I, pR_L, pR_R, if_neg (show ¬ 28 = 44 by decide), if_true, if_neg (show ¬ 19 = 16 by decide), if_neg (show ¬ 19 = 25 by decide)]; exact h4, fun k x hk => ?_, by simp [plet, pcall, pck, pI_I, pI_L, pI_R, pL_I, pL_L, pL_R, pR_I, pR_L, pR_R], ⟨by simp [plet, pcall, pck, pI_I, pI_L, pI_R, pL_I, pL_L, pL_R, pR_I, pR_L, pR_R], sgR_far h7 (fun j hj => ?_)⟩, by simp [plet, pcall, pck, pI_I, pI_L, pI_R, pL_I, pL_L, pL_R, pR_I, pR_L, pR_R, h8]⟩
    · simp only [plet, pcall, pck, pI_I, pI_L, pI_R, pL_I, pL_L, pL_R, pR_I, pR_L, pR_R, if_neg (show ¬ 39 = 28 by decide), if_neg (show ¬ 40 = 28 by decide), if_neg (show ¬ 39 = 44 by decide), if_neg (show ¬ 40 = 44 by decide)]
      exact h5 k x hk
    · have : j ≠ σ.length := by omega
      simp [plet, pcall, pck, pI_I, pI_L, pI_R, pL_I, pL_L, pL_R, pR_I, pR_L, pR_R, this]
/-- no operator is taken here -/
theorem rc_162 {wh bg : Int32} {f : Nat} {M : zzM} {T : Nat → Nat} {N w q i d : Nat} {cs : List (Int32 × Int32)} {pend σ : List Nat} (h : mX M T N w q i cs (pend ++ σ) d) (hi : i ≤ 400) (hl : (pend ++ σ).length < 50) (hwh : wh = 1 ∨ pend ++ σ ≠ []) (hp : ∀ x ∈ pend, x < 128 ∧ x ≠ 40) (hσ : σ = [] ∨ ∃ r, σ = 40 :: r) (hs : stN (chT T N i) ≤ 1) (hc1 : stN (chT T N i) = 1 → ∃ x ∈ pend, stN x = 1) : rc wh bg (f + 1) M 1 0 = F_Md_readCodes_162 lwSm (F_Md_readCodes_20 lwSm f) M 28 wh bg 1 0 (chM T N i) := by
  have hok := h.1.ok
  rw [rc_91 h hi (by omega) hwh]
  simp only [F_Md_readCodes_91, m_strC hok, pcall]
  by_cases h1 : stN (chT T N i) = 1
  · rw [h1, if_neg (by decide), if_pos (by decide)]
    have hc := m_hasC (M := M) h.1.1 pend 2000 σ (by simp at hl; omega) h.2.2.2.2.2.2.1 (by omega) hp hσ
    rw [if_pos (hc1 h1)] at hc
    simp only [F_Md_hasCompare, plet, h.2.2.2.2.2.1, hc, pcall]
    rw [if_neg (by decide)]
  · have : stN (chT T N i) = 0 := by omega
    rw [this, if_neg (by decide), if_neg (by decide)]
theorem rc_close {wh bg : Int32} {M : zzM} {T : Nat → Nat} {N w q i d : Nat} {cs : List (Int32 × Int32)} {pend σ : List Nat} (h : mX M T N w q i cs (pend ++ 40 :: σ) (d + 1)) (hi : i ≤ 400) (hl : (pend ++ 40 :: σ).length < 50) (hp : ∀ x ∈ pend, x < 128 ∧ x ≠ 40 ∧ 1 ≤ stN x) (hσ : ∀ x ∈ σ, x < 128) (hb : q + cs.length + pend.length < 1000) (hs : chT T N i = 41) : ∃ M1, (∀ f, rc wh bg (f + 1) M 1 0 = zzcall (F_Md_complete_0 lwSm 2000 M1 28) (fun _ M => rc wh bg f M 1 0)) ∧ mX M1 T N w q (i + 1) (cs ++ pend.map (fun c => (nI c, 0))) σ d ∧ frX w q M M1 := by
  have hok := h.1.ok
  have hall : ∀ x ∈ pend ++ 40 :: σ, x < 128 := fun x hx => by
    simp at hx
    rcases hx with hx | hx | hx
    · exact (hp x hx).1
    · omega
    · exact hσ x hx
  have e := fun f => rc_162 (wh := wh) (bg := bg) (f := f) h hi hl (Or.inr (by simp)) (fun x hx => ⟨(hp x hx).1, (hp x hx).2.1⟩) (Or.inr ⟨σ, rfl⟩) (by rw [hs]; decide) (by rw [hs]; intro h; exact absurd h (by decide))
  have hP := m_hasP h.1.1 h.2.2.2.2.2.1 h.2.2.2.2.2.2.1 (by omega) hall
  rw [if_pos (by simp)] at hP
  obtain ⟨M1, a1, a2, a3⟩ := m_drain (s := 1) (σ := 40 :: σ) (by omega) (fun x r hx => by cases hx; exact ⟨by omega, by decide⟩) pend 2000 M cs (by simp at hl; omega) h (fun x hx => ⟨(hp x hx).1, (hp x hx).2.2⟩) hb (by omega)
  obtain ⟨b1, b2⟩ := a3.pop
  have h25 := a3.2.2.2.2.2.1
  have h27 := a3.2.2.2.2.2.2.2
  have h16 := a3.2.1
  simp only [List.length_cons] at h25
  refine ⟨_, fun f => ?_, b1.at (i + 1), (a2.tr b2).tr (frX_s _ (by omega))⟩
  rw [e]
  have ed : F_Md_drain lwSm M 28 1 = some ((), M1) := a1
  simp only [F_Md_readCodes_162, hP, pcall, ed, plet, h25, nI_pred, plet, pcall, pck, pI_I, pI_L, pI_R, pL_I, pL_L, pL_R, pR_I, pR_L, pR_R, if_true, if_neg (show ¬ 27 = 25 by decide), if_neg (show ¬ 16 = 25 by decide), if_neg (show ¬ 16 = 27 by decide), h27, h16, ← nI_succ]
  rw [if_pos (show chM T N i = (41 : Int32) from chM_is hok (v := 41) (by omega) (by omega) hs), if_neg (by decide)]
  rfl
theorem rc_bad {wh bg : Int32} {f : Nat} {M : zzM} {T : Nat → Nat} {N w q i d : Nat} {cs : List (Int32 × Int32)} {pend σ : List Nat} (h : mX M T N w q i cs (pend ++ 40 :: σ) d) (hi : i ≤ 400) (hl : (pend ++ 40 :: σ).length < 50) (hp : ∀ x ∈ pend, x < 128 ∧ x ≠ 40) (hσ : ∀ x ∈ σ, x < 128) (hs : stN (chT T N i) ≤ 1) (hc1 : stN (chT T N i) = 1 → ∃ x ∈ pend, stN x = 1) (hne : chT T N i ≠ 41) : rc wh bg (f + 1) M 1 0 = rc wh bg f (zzsI M 28 17 (nI i)) 1 0 := by
  have hok := h.1.ok
  have hall : ∀ x ∈ pend ++ 40 :: σ, x < 128 := fun x hx => by
    simp at hx
    rcases hx with hx | hx | hx
    · exact (hp x hx).1
    · omega
    · exact hσ x hx
  rw [rc_162 (wh := wh) (bg := bg) (f := f) h hi hl (Or.inr (by simp)) hp (Or.inr ⟨σ, rfl⟩) hs hc1]
  have hP := m_hasP h.1.1 h.2.2.2.2.2.1 h.2.2.2.2.2.2.1 (by omega) hall
  rw [if_pos (by simp)] at hP
  simp only [F_Md_readCodes_162, F_Md_readCodes_218, hP, pcall, plet, h.2.1]
  rw [if_neg (show ¬ chM T N i = (41 : Int32) from chM_ne hok (v := 41) (by omega) (by omega) hne), if_neg (by decide)]
theorem rc_stop {bg : Int32} {M : zzM} {T : Nat → Nat} {N w q i d : Nat} {cs : List (Int32 × Int32)} {pend : List Nat} (h : mX M T N w q i cs pend d) (hi : i ≤ 400) (hl : pend.length < 50) (hp : ∀ x ∈ pend, x < 128 ∧ x ≠ 40 ∧ 1 ≤ stN x) (hs : stN (chT T N i) ≤ 1) (hc1 : stN (chT T N i) = 1 → ∃ x ∈ pend, stN x = 1) (hb : q + cs.length + pend.length < 1000) : ∃ M1, (∀ f, rc 1 bg (f + 1) M 1 0 = rc 1 bg f M1 0 0) ∧ mX M1 T N w q i (cs ++ pend.map (fun c => (nI c, 0))) [] d ∧ frX w q M M1 := by
  have hok := h.1.ok
  have h' : mX M T N w q i cs (pend ++ []) d := by rw [List.append_nil]; exact h
  have hP := m_hasP h.1.1 h.2.2.2.2.2.1 h.2.2.2.2.2.2.1 (by omega) (fun x hx => (hp x hx).1)
  rw [if_neg (fun hm => (hp 40 hm).2.1 rfl)] at hP
  obtain ⟨M1, a1, a2, a3⟩ := m_drain (s := 1) (σ := []) (by omega) (fun x r hx => by cases hx) pend 2000 M cs (by omega) h' (fun x hx => ⟨(hp x hx).1, (hp x hx).2.2⟩) hb (by rw [List.append_nil]; omega)
  refine ⟨M1, fun f => ?_, a3, a2⟩
  rw [rc_162 (σ := []) h' hi (by rw [List.append_nil]; exact hl) (Or.inl rfl) (fun x hx => ⟨(hp x hx).1, (hp x hx).2.1⟩) (Or.inl rfl) hs hc1]
  have ed : F_Md_drain lwSm M 28 1 = some ((), M1) := a1
  have e218 : F_Md_readCodes_218 lwSm (F_Md_readCodes_20 lwSm f) M 28 1 bg 1 0 = rc 1 bg f M1 0 0 := by
    simp only [F_Md_readCodes_218, hP, pcall, ed, if_true]
  simp only [F_Md_readCodes_162, hP, pcall, if_true, e218, ite_self]
