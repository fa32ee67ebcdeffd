/-! the reference's reading of an expression, step by step -/
abbrev rc (wh bg : Int32) (f : Nat) (M : zzM) (mo wa : Int32) : Option (Int32 × zzM) := F_Md_readCodes_20 lwSm f M 28 wh bg mo wa
theorem chM_lt {T : Nat → Nat} {N i v : Nat} (h : ∀ i, i < N → okc (T i)) (hv : v < 1000) (hv0 : v ≠ 0) : chM T N i < nI v ↔ chT T N i < v := by
  unfold chM chT
  by_cases hi : i < N
  · have := h i hi
    unfold okc at this
    rw [if_pos hi, if_pos hi, plt (by omega) (by omega)]
  · rw [if_neg hi, if_neg hi]
    constructor
    · intro _; omega
    · intro _
      rw [Int32.lt_iff_toInt_lt, nI_toInt (by omega)]
      have : (-1 : Int32).toInt = -1 := by decide
      omega
theorem chM_gt {T : Nat → Nat} {N i v : Nat} (h : ∀ i, i < N → okc (T i)) (hv : v < 1000) : nI v < chM T N i ↔ v < chT T N i := by
  unfold chM chT
  by_cases hi : i < N
  · have := h i hi
    unfold okc at this
    rw [if_pos hi, if_pos hi, plt (by omega) (by omega)]
  · rw [if_neg hi, if_neg hi]
    constructor
    · intro e
      rw [Int32.lt_iff_toInt_lt, nI_toInt (by omega)] at e
      have : (-1 : Int32).toInt = -1 := by decide
      omega
    · intro _; omega
def isD (x : Nat) : Prop := 48 ≤ x ∧ x ≤ 57
def isV (x : Nat) : Prop := 97 ≤ x ∧ x ≤ 122
def isF (x : Nat) : Prop := 65 ≤ x ∧ x ≤ 90
def isN (x : Nat) : Prop := x = 45 ∨ x = 40 ∨ x = 64 ∨ x = 39
def stN (x : Nat) : Nat := if x = 42 ∨ x = 47 ∨ x = 37 then 3 else if x = 43 ∨ x = 45 then 2 else if x = 60 ∨ x = 61 then 1 else 0
theorem stN_le (x : Nat) : stN x ≤ 3 := by unfold stN; split; omega; split; omega; split <;> omega
theorem m_isDigit_y {T : Nat → Nat} {N i : Nat} (hT : ∀ i, i < N → okc (T i)) (S : zzS) (M : zzM) (h : isD (chT T N i)) : F_Md_isDigit S M (chM T N i) = some (1, M) := by
  unfold F_Md_isDigit
  rw [if_neg (by rw [show (48 : Int32) = nI 48 from rfl, chM_lt hT (by omega) (by omega)]; unfold isD at h; omega), if_neg (by rw [show (57 : Int32) = nI 57 from rfl, chM_gt hT (by omega)]; unfold isD at h; omega)]
theorem m_isDigit_n {T : Nat → Nat} {N i : Nat} (hT : ∀ i, i < N → okc (T i)) (S : zzS) (M : zzM) (h : ¬ isD (chT T N i)) : F_Md_isDigit S M (chM T N i) = some (0, M) := by
  unfold F_Md_isDigit
  by_cases h1 : chT T N i < 48
  · rw [if_pos (by rw [show (48 : Int32) = nI 48 from rfl, chM_lt hT (by omega) (by omega)]; exact h1)]
  · rw [if_neg (by rw [show (48 : Int32) = nI 48 from rfl, chM_lt hT (by omega) (by omega)]; exact h1), if_pos (by rw [show (57 : Int32) = nI 57 from rfl, chM_gt hT (by omega)]; unfold isD at h; omega)]
theorem m_isVar_y {T : Nat → Nat} {N i : Nat} (hT : ∀ i, i < N → okc (T i)) (S : zzS) (M : zzM) (h : isV (chT T N i)) : F_Md_isVariable S M (chM T N i) = some (1, M) := by
  unfold F_Md_isVariable
  rw [if_neg (by rw [show (97 : Int32) = nI 97 from rfl, chM_lt hT (by omega) (by omega)]; unfold isV at h; omega), if_neg (by rw [show (122 : Int32) = nI 122 from rfl, chM_gt hT (by omega)]; unfold isV at h; omega)]
theorem m_isVar_n {T : Nat → Nat} {N i : Nat} (hT : ∀ i, i < N → okc (T i)) (S : zzS) (M : zzM) (h : ¬ isV (chT T N i)) : F_Md_isVariable S M (chM T N i) = some (0, M) := by
  unfold F_Md_isVariable
  by_cases h1 : chT T N i < 97
  · rw [if_pos (by rw [show (97 : Int32) = nI 97 from rfl, chM_lt hT (by omega) (by omega)]; exact h1)]
  · rw [if_neg (by rw [show (97 : Int32) = nI 97 from rfl, chM_lt hT (by omega) (by omega)]; exact h1), if_pos (by rw [show (122 : Int32) = nI 122 from rfl, chM_gt hT (by omega)]; unfold isV at h; omega)]
theorem m_isFun_y {T : Nat → Nat} {N i : Nat} (hT : ∀ i, i < N → okc (T i)) (S : zzS) (M : zzM) (h : isF (chT T N i)) : F_Md_isFunction S M (chM T N i) = some (1, M) := by
  unfold F_Md_isFunction
  rw [if_neg (by rw [show (65 : Int32) = nI 65 from rfl, chM_lt hT (by omega) (by omega)]; unfold isF at h; omega), if_neg (by rw [show (90 : Int32) = nI 90 from rfl, chM_gt hT (by omega)]; unfold isF at h; omega)]
theorem m_isFun_n {T : Nat → Nat} {N i : Nat} (hT : ∀ i, i < N → okc (T i)) (S : zzS) (M : zzM) (h : ¬ isF (chT T N i)) : F_Md_isFunction S M (chM T N i) = some (0, M) := by
  unfold F_Md_isFunction
  by_cases h1 : chT T N i < 65
  · rw [if_pos (by rw [show (65 : Int32) = nI 65 from rfl, chM_lt hT (by omega) (by omega)]; exact h1)]
  · rw [if_neg (by rw [show (65 : Int32) = nI 65 from rfl, chM_lt hT (by omega) (by omega)]; exact h1), if_pos (by rw [show (90 : Int32) = nI 90 from rfl, chM_gt hT (by omega)]; unfold isF at h; omega)]
theorem chM_is {T : Nat → Nat} {N i : Nat} (hT : ∀ i, i < N → okc (T i)) {v : Nat} (hv : v < 1000) (hv0 : v ≠ 0) (h : chT T N i = v) : chM T N i = nI v := (chM_eq hT hv hv0).mpr h
theorem chM_ne {T : Nat → Nat} {N i : Nat} (hT : ∀ i, i < N → okc (T i)) {v : Nat} (hv : v < 1000) (hv0 : v ≠ 0) (h : chT T N i ≠ v) : ¬ chM T N i = nI v := fun e => h ((chM_eq hT hv hv0).mp e)
theorem m_isNest {T : Nat → Nat} {N i : Nat} (hT : ∀ i, i < N → okc (T i)) (S : zzS) (M : zzM) : (isN (chT T N i) → F_Md_isNest S M (chM T N i) = some (1, M)) ∧ (¬ isN (chT T N i) → F_Md_isNest S M (chM T N i) = some (0, M)) := by
  constructor
  · rintro (h | h | h | h)
    · rw [chM_is hT (by omega) (by omega) h]; rfl
    · rw [chM_is hT (by omega) (by omega) h]; rfl
    · rw [chM_is hT (by omega) (by omega) h]; rfl
    · rw [chM_is hT (by omega) (by omega) h]; rfl
  · intro h
    unfold isN at h
    unfold F_Md_isNest
    rw [if_neg (show ¬ chM T N i = (45 : Int32) from chM_ne hT (v := 45) (by omega) (by omega) (by omega)), if_neg (show ¬ chM T N i = (40 : Int32) from chM_ne hT (v := 40) (by omega) (by omega) (by omega)), if_neg (show ¬ chM T N i = (64 : Int32) from chM_ne hT (v := 64) (by omega) (by omega) (by omega)), if_neg (show ¬ chM T N i = (39 : Int32) from chM_ne hT (v := 39) (by omega) (by omega) (by omega))]
theorem m_strC {T : Nat → Nat} {N i : Nat} (hT : ∀ i, i < N → okc (T i)) (S : zzS) (M : zzM) : F_Md_strength S M (chM T N i) = some (nI (stN (chT T N i)), M) := by
  have e : ∀ v, v < 1000 → v ≠ 0 → (chM T N i = nI v ↔ chT T N i = v) := fun v h1 h2 => chM_eq hT h1 h2
  unfold F_Md_strength stN
  by_cases h1 : chT T N i = 42
  · rw [if_pos (show chM T N i = (42 : Int32) from (e 42 (by omega) (by omega)).mpr h1), if_pos (by omega)]; rfl
  · rw [if_neg (show ¬ chM T N i = (42 : Int32) from fun h => h1 ((e 42 (by omega) (by omega)).mp h))]
    by_cases h2 : chT T N i = 47
    · rw [if_pos (show chM T N i = (47 : Int32) from (e 47 (by omega) (by omega)).mpr h2), if_pos (by omega)]; rfl
    · rw [if_neg (show ¬ chM T N i = (47 : Int32) from fun h => h2 ((e 47 (by omega) (by omega)).mp h))]
      by_cases h3 : chT T N i = 37
      · rw [if_pos (show chM T N i = (37 : Int32) from (e 37 (by omega) (by omega)).mpr h3), if_pos (by omega)]; rfl
      · rw [if_neg (show ¬ chM T N i = (37 : Int32) from fun h => h3 ((e 37 (by omega) (by omega)).mp h)), if_neg (show ¬ (chT T N i = 42 ∨ chT T N i = 47 ∨ chT T N i = 37) by omega)]
        by_cases h4 : chT T N i = 43
        · rw [if_pos (show chM T N i = (43 : Int32) from (e 43 (by omega) (by omega)).mpr h4), if_pos (by omega)]; rfl
        · rw [if_neg (show ¬ chM T N i = (43 : Int32) from fun h => h4 ((e 43 (by omega) (by omega)).mp h))]
          by_cases h5 : chT T N i = 45
          · rw [if_pos (show chM T N i = (45 : Int32) from (e 45 (by omega) (by omega)).mpr h5), if_pos (by omega)]; rfl
          · rw [if_neg (show ¬ chM T N i = (45 : Int32) from fun h => h5 ((e 45 (by omega) (by omega)).mp h)), if_neg (show ¬ (chT T N i = 43 ∨ chT T N i = 45) by omega)]
            by_cases h6 : chT T N i = 60
            · rw [if_pos (show chM T N i = (60 : Int32) from (e 60 (by omega) (by omega)).mpr h6), if_pos (by omega)]; rfl
            · rw [if_neg (show ¬ chM T N i = (60 : Int32) from fun h => h6 ((e 60 (by omega) (by omega)).mp h))]
              by_cases h7 : chT T N i = 61
              · rw [if_pos (show chM T N i = (61 : Int32) from (e 61 (by omega) (by omega)).mpr h7), if_pos (by omega)]; rfl
              · rw [if_neg (show ¬ chM T N i = (61 : Int32) from fun h => h7 ((e 61 (by omega) (by omega)).mp h)), if_neg (by omega)]; rfl
/-- of a sign -/
theorem m_strN (S : zzS) (M : zzM) {x : Nat} (hx : x < 128) : F_Md_strength S M (nI x) = some (nI (stN x), M) := by
  have h : ∀ x, x < 128 → (if nI x = (42 : Int32) then (3 : Int32) else if nI x = 47 then 3 else if nI x = 37 then 3 else if nI x = 43 then 2 else if nI x = 45 then 2 else if nI x = 60 then 1 else if nI x = 61 then 1 else 0) = nI (stN x) := by decide
  rw [← h x hx]
  unfold F_Md_strength
  repeat' split
  all_goals first | rfl | contradiction
/-- drain -/
theorem drain_step {S : zzS} {n : Nat} : F_Md_drain_0 S (n + 1) = F_Md_drain_0_b S (F_Md_drain_0 S n) := rfl
theorem m_drain {T : Nat → Nat} {N w q i d s : Nat} {σ : List Nat} (hs : 1 ≤ s ∧ s ≤ 3) (hσ : ∀ x r, σ = x :: r → x < 128 ∧ stN x < s) : ∀ (pend : List Nat) (n : Nat) (M : zzM) (cs : List (Int32 × Int32)), pend.length < n → mX M T N w q i cs (pend ++ σ) d → (∀ x ∈ pend, x < 128 ∧ s ≤ stN x) → q + cs.length + pend.length < 1000 → (pend ++ σ).length < 60 → ∃ M1, F_Md_drain_0 lwSm n M 28 (nI s) = some ((), M1) ∧ frX w q M M1 ∧ mX M1 T N w q i (cs ++ pend.map (fun c => (nI c, 0))) σ d
  | [], n + 1, M, cs, hn, hX, hp, hb, hl => by
    refine ⟨M, ?_, frX.rf _ _ _, by simpa using hX⟩
    obtain ⟨h1, h2, h3, h4, h5, h6, h7, h8⟩ := hX
    rw [List.nil_append] at h6 h7 hl
    rw [drain_step]
    cases σ with
    | nil =>
      simp only [F_Md_drain_0_b, plet, h6]
      exact if_pos (by decide)
    | cons x r =>
      have hx := hσ x r rfl
      have := stN_le x
      simp only [List.length_cons] at h6 hl
      simp only [F_Md_drain_0_b, plet, h6, if_neg (nI_nle (show 0 < r.length + 1 by omega) (by omega)), mR_26 h1.1, mr_44, nI_pred, pix (S := lwSm) mn_44 (show r.length < 64 by omega) (by omega), pnI (show r.length < 100000 by omega), h7.1, m_strN _ _ hx.1, pcall, if_pos (nI_lt hx.2 (by omega))]
  | x :: pend, n + 1, M, cs, hn, hX, hp, hb, hl => by
    have hX0 := hX
    obtain ⟨h1, h2, h3, h4, h5, h6, h7, h8⟩ := hX
    have hx := hp x (by simp)
    have := stN_le x
    have h7a : zzI M 44 (pend ++ σ).length = nI x := h7.1
    simp only [List.cons_append, List.length_cons] at h6 hl hb
    have hX1 : mX (zzsI M 28 25 (nI (pend ++ σ).length)) T N w q i cs (pend ++ σ) d := by
      refine ⟨h1.go (frX_s (q := q) _ (by omega)), by simp [plet, pcall, pck, pI_I, pI_L, pI_R, pL_I, pL_L, pL_R, pR_I, pR_L, pR_R, h2], by simp [plet, pcall, pck, pI_I, pI_L, pI_R, pL_I, pL_L, pL_R, pR_I, pR_L, pR_R, h3], by simp [plet, pcall, pck, pI_I, pI_L, pI_R, pL_I, pL_L, pL_R, pR_I, pR_L, pR_R, h4], fun k y hk => ?_, by simp [plet, pcall, pck, pI_I, pI_L, pI_R, pL_I, pL_L, pL_R, pR_I, pR_L, pR_R], h7.2, by simp [plet, pcall, pck, pI_I, pI_L, pI_R, pL_I, pL_L, pL_R, pR_I, pR_L, pR_R, h8]⟩
      simp only [plet, pcall, pck, pI_I, pI_L, pI_R, pL_I, pL_L, pL_R, pR_I, pR_L, pR_R, if_neg (show ¬ 39 = 28 by decide), if_neg (show ¬ 40 = 28 by decide)]
      exact h5 k y hk
    obtain ⟨M1, a1, a2, a3⟩ := m_code hX1 (by omega) (nI x) 0
    obtain ⟨M2, b1, b2, b3⟩ := m_drain hs hσ pend n M1 (cs ++ [(nI x, 0)]) (by simp at hn; omega) a3 (fun y hy => hp y (by simp [hy])) (by simp; omega) (by omega)
    refine ⟨M2, ?_, ((frX_s (w := w) (q := q) _ (by omega)).tr a2).tr b2, by simpa using b3⟩
    rw [drain_step]
    simp only [F_Md_drain_0_b, plet, h6, if_neg (nI_nle (show 0 < (pend ++ σ).length + 1 by omega) (by omega)), mR_26 h1.1, mr_44, nI_pred, pix (S := lwSm) mn_44 (show (pend ++ σ).length < 64 by omega) (by omega), pnI (show (pend ++ σ).length < 100000 by omega), h7a, m_strN _ _ hx.1, pcall, if_neg (nI_nlt hx.2 (by omega)), plet, pcall, pck, pI_I, pI_L, pI_R, pL_I, pL_L, pL_R, pR_I, pR_L, pR_R, if_true, if_neg (show ¬ 44 = 28 by decide), a1, b1]
/-- signs asked for -/
theorem hp_step {S : zzS} {n : Nat} : F_Md_hasParen_4 S (n + 1) = F_Md_hasParen_4_b S (F_Md_hasParen_4 S n) := rfl
/-- the sign at k, from below -/
theorem sgR_at {f : Nat → Int32} : ∀ {σ : List Nat}, sgR f σ → ∀ k, k < σ.length → ∃ x ∈ σ, f k = nI x ∧ σ.reverse[k]? = some x
  | [], _, k, hk => by simp at hk
  | x :: r, h, k, hk => by
    by_cases e : k = r.length
    · subst e
      exact ⟨x, by simp, h.1, by simp⟩
    · obtain ⟨y, h1, h2, h3⟩ := sgR_at h.2 k (by simp at hk; omega)
      refine ⟨y, by simp [h1], h2, ?_⟩
      rw [List.reverse_cons, List.getElem?_append_left (by simp at hk; simp; omega)]
      exact h3
theorem m_hasP {M : zzM} {σ : List Nat} (hR : mdR M) (h25 : zzI M 28 25 = nI σ.length) (hg : sgR (zzI M 44) σ) (hl : σ.length < 60) (hσ : ∀ x ∈ σ, x < 128) : F_Md_hasParen lwSm M 28 = some (if 40 ∈ σ then 1 else 0, M) := by
  have key : ∀ (m k n : Nat) (b : Bool), k + m = σ.length → m < n → (b = true ↔ 40 ∈ σ.reverse.take k) → F_Md_hasParen_4 lwSm n M 28 (if b = true then 1 else 0) (nI k) = some (if 40 ∈ σ then 1 else 0, M) := by
    intro m
    induction m with
    | zero =>
      intro k n b h1 h2 h3
      obtain ⟨n2, rfl⟩ : ∃ n2, n = n2 + 1 := ⟨n - 1, by omega⟩
      rw [List.take_of_length_le (by simp; omega), List.mem_reverse] at h3
      have hz : zzokZ (if b = true then 1 else 0) = true := by cases b <;> decide
      rw [hp_step]
      simp only [F_Md_hasParen_4_b, plet, h25, if_pos (nI_le (show σ.length ≤ k by omega) (by omega)), hz, pck]
      by_cases hb : b = true
      · rw [if_pos hb, if_pos (h3.mp hb)]
      · rw [if_neg hb, if_neg (fun h => hb (h3.mpr h))]
    | succ m ih =>
      intro k n b h1 h2 h3
      obtain ⟨n2, rfl⟩ : ∃ n2, n = n2 + 1 := ⟨n - 1, by omega⟩
      obtain ⟨x, x1, x2, x3⟩ := sgR_at hg k (by omega)
      have htk : σ.reverse.take (k + 1) = σ.reverse.take k ++ [x] := by rw [List.take_add_one, x3]; rfl
      rw [hp_step]
      simp only [F_Md_hasParen_4_b, plet, h25, if_neg (nI_ge (show k < σ.length by omega) (by omega)), mR_26 hR, mr_44, pix (S := lwSm) mn_44 (show k < 64 by omega) (by omega), pnI (show k < 100000 by omega), x2, ← nI_succ]
      by_cases hb : b = true
      · rw [if_pos hb, if_neg (by decide)]
        have := ih (k + 1) n2 true (by omega) (by omega) (by rw [htk]; simp [h3.mp hb])
        simpa using this
      · rw [if_neg hb, if_pos rfl]
        by_cases hx : x = 40
        · subst hx
          rw [if_pos (show nI 40 = 40 from rfl)]
          have := ih (k + 1) n2 true (by omega) (by omega) (by rw [htk]; simp)
          simpa using this
        · have hne : ¬ nI x = 40 := fun e => hx ((peq (by have := hσ x x1; omega) (by omega)).mp (show nI x = nI 40 from e))
          rw [if_neg hne]
          have := ih (k + 1) n2 false (by omega) (by omega) (by
            rw [htk, List.mem_append]
            have hnb : ¬ 40 ∈ σ.reverse.take k := fun h => hb (h3.mpr h)
            simp [hnb, Ne.symm hx])
          simpa using this
  have h := key σ.length 0 2000 false (by omega) (by omega) (by simp)
  exact h
theorem hcm_step {S : zzS} {n : Nat} : F_Md_hasCompare_7 S (n + 1) = F_Md_hasCompare_7_b S (F_Md_hasCompare_7 S n) := rfl
/-- no comparison down to a bracket or the end; one is there -/
theorem m_hasC {M : zzM} (hR : mdR M) : ∀ (pend : List Nat) (n : Nat) (σ : List Nat), pend.length < n → sgR (zzI M 44) (pend ++ σ) → (pend ++ σ).length < 60 → (∀ x ∈ pend, x < 128 ∧ x ≠ 40) → (σ = [] ∨ ∃ r, σ = 40 :: r) → F_Md_hasCompare_7 lwSm n M 28 (nI (pend ++ σ).length - 1) = some (if ∃ x ∈ pend, stN x = 1 then 1 else 0, M)
  | [], n + 1, σ, hn, hg, hl, hp, hσ => by
    rw [hcm_step]
    rcases hσ with rfl | ⟨r, rfl⟩
    · simp only [F_Md_hasCompare_7_b]
      rw [if_pos (by decide)]
      simp
    · rw [List.nil_append] at hg hl ⊢
      simp only [List.length_cons] at hl ⊢
      rw [nI_pred]
      simp only [F_Md_hasCompare_7_b, if_neg (nI_pos (n := r.length) (by omega)), mR_26 hR, mr_44, pix (S := lwSm) mn_44 (show r.length < 64 by omega) (by omega), pnI (show r.length < 100000 by omega), plet, hg.1]
      rw [if_pos (by decide)]
      simp
  | x :: pend, n + 1, σ, hn, hg, hl, hp, hσ => by
    rw [hcm_step]
    have hx := hp x (by simp)
    simp only [List.cons_append, List.length_cons] at hl hg ⊢
    rw [nI_pred]
    have hne : ¬ nI x = 40 := fun e => hx.2 ((peq (by omega) (by omega)).mp (show nI x = nI 40 from e))
    simp only [F_Md_hasCompare_7_b, if_neg (nI_pos (n := (pend ++ σ).length) (by omega)), mR_26 hR, mr_44, pix (S := lwSm) mn_44 (show (pend ++ σ).length < 64 by omega) (by omega), pnI (show (pend ++ σ).length < 100000 by omega), plet, hg.1, if_neg hne, m_strN _ _ hx.1, pcall]
    by_cases h1 : stN x = 1
    · rw [if_pos (by rw [h1]; decide), if_pos ⟨x, by simp, h1⟩]
    · have := stN_le x
      have hne2 : ¬ nI (stN x) = 1 := fun e => h1 ((peq (by omega) (by omega)).mp (show nI (stN x) = nI 1 from e))
      rw [if_neg hne2]
      have ih := m_hasC hR pend n σ (by simp at hn; omega) hg.2 (by omega) (fun y hy => hp y (by simp [hy])) hσ
      rw [show nI (pend ++ σ).length + (-1 : Int32) = nI (pend ++ σ).length - 1 by rw [Int32.sub_eq_add_neg], ih]
      congr 3
      simp [h1]
