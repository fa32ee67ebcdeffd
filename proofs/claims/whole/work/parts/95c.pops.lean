/-! loops that fill and copy -/
def zfl (M : zzM) (a n : Nat) (v : Int64) : zzM := (M.1, (fun b => if b = a then (fun j => if j < n then v else M.2.1 a j) else M.2.1 b), M.2.2)
theorem zfl_0 (M : zzM) (a : Nat) (v : Int64) : zfl M a 0 v = M := by
  have : (fun b => if b = a then (fun j => if j < 0 then v else M.2.1 a j) else M.2.1 b) = M.2.1 := by
    funext b j
    by_cases h : b = a
    · subst h; simp
    · simp [h]
  unfold zfl
  rw [this]
theorem zfl_s (M : zzM) (a n : Nat) (v : Int64) : zzsL (zfl M a n v) a n v = zfl M a (n + 1) v := by
  unfold zzsL zfl zz2
  have : (fun b j => if b = a then (if j = n then v else (if b = a then (fun j => if j < n then v else M.2.1 a j) else M.2.1 b) j) else (if b = a then (fun j => if j < n then v else M.2.1 a j) else M.2.1 b) j) = (fun b => if b = a then (fun j => if j < n + 1 then v else M.2.1 a j) else M.2.1 b) := by
    funext b j
    by_cases h : b = a
    · subst h
      simp only [if_true]
      by_cases h1 : j = n
      · rw [if_pos h1, if_pos (by omega)]
      · rw [if_neg h1]
        by_cases h2 : j < n
        · rw [if_pos h2, if_pos (by omega)]
        · rw [if_neg h2, if_neg (by omega)]
    · simp only [if_neg h]
  rw [this]
theorem fill_step {S : zzS} {n : Nat} : F_Ar_fill_6 S (n + 1) = F_Ar_fill_6_b S (F_Ar_fill_6 S n) := rfl
theorem c_fill_6 {S : zzS} {M : zzM} {a N : Nat} {v : Int64} (hN : zzn S a = N) (hN2 : N ≤ 1000) : ∀ (m k n : Nat), k + m = N → m < n → F_Ar_fill_6 S n (zfl M a k v) a v (nI k) (nI N) = some ((), zfl M a N v)
  | 0, k, n + 1, h1, h2 => by
    rw [fill_step]
    have : k = N := by omega
    subst this
    simp only [F_Ar_fill_6_b, if_pos (nI_le (Nat.le_refl k) (by omega))]
  | m + 1, k, n + 1, h1, h2 => by
    rw [fill_step]
    simp only [F_Ar_fill_6_b, if_neg (nI_ge (show k < N by omega) (by omega)), pix hN (show k < N by omega) (by omega), pnI (show k < 100000 by omega), plet, pcall, pck, pI_I, pI_L, pI_R, pL_I, pL_L, pL_R, pR_I, pR_L, pR_R, zfl_s, ← nI_succ]
    exact c_fill_6 hN hN2 m (k + 1) n (by omega) (by omega)
theorem c_fill {S : zzS} {M : zzM} {a N : Nat} {v : Int64} (hl : a < S.2.1) (hk : zzk S a = 2) (hN : zzn S a = N) (hN2 : N ≤ 1000) : F_Ar_fill S M (some a) v = some ((), zfl M a N v) := by
  have h := c_fill_6 (M := M) (v := v) hN hN2 N 0 2000 (by omega) (by omega)
  rw [zfl_0] at h
  simp only [F_Ar_fill, poptp hl hk, plet, pcall, pck, pI_I, pI_L, pI_R, pL_I, pL_L, pL_R, pR_I, pR_L, pR_R, hN]
  exact h
theorem zcp_0 (M : zzM) (a0 sp a1 dp : Nat) : zzcpL M a0 sp a1 dp 0 = M := by
  have : (fun b => if b = a1 then va_cpy (M.2.1 a0) (M.2.1 a1) sp dp 0 else M.2.1 b) = M.2.1 := by
    funext b j
    by_cases h : b = a1
    · subst h; simp only [if_true, va_cpy]; rw [if_neg (by omega)]
    · simp [h]
  unfold zzcpL
  rw [this]
theorem zcp_s (M : zzM) {a0 sp a1 dp n : Nat} (hne : a0 ≠ a1) : zzsL (zzcpL M a0 sp a1 dp n) a1 (dp + n) (zzL (zzcpL M a0 sp a1 dp n) a0 (sp + n)) = zzcpL M a0 sp a1 dp (n + 1) := by
  have h0 : zzL (zzcpL M a0 sp a1 dp n) a0 (sp + n) = M.2.1 a0 (sp + n) := by simp [zzL, zzcpL, hne]
  rw [h0]
  unfold zzsL zzcpL zz2
  have : (fun b j => if b = a1 then (if j = dp + n then M.2.1 a0 (sp + n) else (if b = a1 then va_cpy (M.2.1 a0) (M.2.1 a1) sp dp n else M.2.1 b) j) else (if b = a1 then va_cpy (M.2.1 a0) (M.2.1 a1) sp dp n else M.2.1 b) j) = (fun b => if b = a1 then va_cpy (M.2.1 a0) (M.2.1 a1) sp dp (n + 1) else M.2.1 b) := by
    funext b j
    by_cases h : b = a1
    · subst h
      simp only [if_true, va_cpy]
      by_cases h1 : j = dp + n
      · subst h1
        rw [if_pos rfl, if_pos (by omega), show dp + n - dp = n by omega]
      · rw [if_neg h1]
        by_cases h2 : dp ≤ j ∧ j < dp + n
        · rw [if_pos h2, if_pos (by omega)]
        · rw [if_neg h2, if_neg (by omega)]
    · simp only [if_neg h]
  rw [this]
/-! create and addObject -/
theorem create_step {S : zzS} {n : Nat} : F_Bd_create_29 S (n + 1) = F_Bd_create_29_b S (F_Bd_create_29 S n) := rfl
theorem c_cr_s {S : zzS} {M : zzM} (hS : clS S) (hC : clR M) {o k n : Nat} (ho : o < 12) (hk : k < 6) : F_Bd_create_29 S (n + 1) M 5 (nI (6 * o)) (nI k) = F_Bd_create_29 S n (zzsL M 6 (6 * o + k) 0) 5 (nI (6 * o)) (nI (k + 1)) := by
  rw [create_step]
  simp only [F_Bd_create_29_b, if_neg (show ¬ (6 : Int32) ≤ nI k from nI_ge (b := 6) hk (by omega)), cR_5_0 hC, cr_6 hS, plet, pcall, pck, pI_I, pI_L, pI_R, pL_I, pL_L, pL_R, pR_I, pR_L, pR_R, nI_add, pix (cn_6 hS) (show 6 * o + k < 72 by omega) (by omega), pnI (show 6 * o + k < 100000 by omega), nI_succ]
theorem c_create {S : zzS} {M : zzM} (hS : clS S) (hC : clR M) {o : Nat} (ho : zzI M 5 1 = nI o) (ho2 : o < 12) (v : Int64) : F_Bd_create S M 5 v = some (nI o, zzsI (zzsL (zzsL (zzsL (zzsL (zzsL (zzsL M 6 (6 * o + 0) v) 6 (6 * o + 1) 0) 6 (6 * o + 2) 0) 6 (6 * o + 3) 0) 6 (6 * o + 4) 0) 6 (6 * o + 5) 0) 5 1 (nI (o + 1))) := by
  have e : nI o * 6 = nI (6 * o) := by show nI o * nI 6 = _; rw [nI_mul, Nat.mul_comm]
  have h1 : F_Bd_create S M 5 v = F_Bd_create_29 S (1994 + 6) (zzsL M 6 (6 * o + 0) v) 5 (nI (6 * o)) (nI 1) := by
    simp only [F_Bd_create, plet, pcall, pck, pI_I, pI_L, pI_R, pL_I, pL_L, pL_R, pR_I, pR_L, pR_R, ho, if_pos (show nI o < (12 : Int32) from nI_lt (b := 12) ho2 (by omega)), e, cR_5_0 hC, cr_6 hS, pix (cn_6 hS) (show 6 * o < 72 by omega) (by omega), pnI (show 6 * o < 100000 by omega)]
    rfl
  rw [h1, c_cr_s hS (clR_L hC) ho2 (by omega), c_cr_s hS (clR_L (clR_L hC)) ho2 (by omega), c_cr_s hS (clR_L (clR_L (clR_L hC))) ho2 (by omega), c_cr_s hS (clR_L (clR_L (clR_L (clR_L hC)))) ho2 (by omega), c_cr_s hS (clR_L (clR_L (clR_L (clR_L (clR_L hC))))) ho2 (by omega), create_step]
  simp only [F_Bd_create_29_b, if_pos (show (6 : Int32) ≤ nI (1 + 1 + 1 + 1 + 1 + 1) by decide), plet, pcall, pck, pI_I, pI_L, pI_R, pL_I, pL_L, pL_R, pR_I, pR_L, pR_R, ho, ← nI_succ, nI_pred, if_true]
theorem c_create_n {S : zzS} {M : zzM} {o : Nat} (ho : zzI M 5 1 = nI o) (ho2 : o = 12) (v : Int64) : F_Bd_create S M 5 v = some (-1, M) := by
  subst ho2
  simp only [F_Bd_create, plet, pcall, pck, pI_I, pI_L, pI_R, pL_I, pL_L, pL_R, pR_I, pR_L, pR_R, ho]
  rw [if_neg (by decide)]
theorem addO_step {S : zzS} {n : Nat} : F_Md_addObject_13 S (n + 1) = F_Md_addObject_13_b S (F_Md_addObject_13 S n) := rfl
theorem m_ad_s {M : zzM} (hR : mdR M) {o k n : Nat} {v : Int64} (ho : zzI M 28 28 = nI o) (ho2 : o < 12) (hk : k < 6) : F_Md_addObject_13 lwSm (n + 1) M 28 v (nI k) = F_Md_addObject_13 lwSm n (zzsL M 45 (6 * o + k) (if k = 0 then v else 0)) 28 v (nI (k + 1)) := by
  rw [addO_step]
  have e6 : (6 : Int32) * nI o + nI k = nI (6 * o + k) := by show nI 6 * nI o + nI k = _; rw [nI_mul, nI_add]
  simp only [F_Md_addObject_13_b, if_neg (show ¬ (6 : Int32) ≤ nI k from nI_ge (b := 6) hk (by omega)), mR_29 hR, mr_45, plet, pcall, pck, pI_I, pI_L, pI_R, pL_I, pL_L, pL_R, pR_I, pR_L, pR_R, ho, e6, pix (S := lwSm) mn_45 (show 6 * o + k < 72 by omega) (by omega), pnI (show 6 * o + k < 100000 by omega), ← nI_succ]
  by_cases h : k = 0
  · subst h; rw [if_pos (by decide), if_pos rfl]
  · rw [if_neg (nI_ne0 (by omega) (by omega)), if_neg h]
theorem m_addObject {M : zzM} (hR : mdR M) {o : Nat} (ho : zzI M 28 28 = nI o) (ho2 : o < 12) (v : Int64) : F_Md_addObject lwSm M 28 v = some (nI o, zzsI (zzsL (zzsL (zzsL (zzsL (zzsL (zzsL M 45 (6 * o + 0) v) 45 (6 * o + 1) 0) 45 (6 * o + 2) 0) 45 (6 * o + 3) 0) 45 (6 * o + 4) 0) 45 (6 * o + 5) 0) 28 28 (nI (o + 1))) := by
  have hne : ¬ nI o = 12 := fun h => by
    have : nI o = nI 12 := h
    rw [peq (by omega) (by omega)] at this
    omega
  have h1 : F_Md_addObject lwSm M 28 v = F_Md_addObject_13 lwSm (1993 + 7) M 28 v (nI 0) := by
    simp only [F_Md_addObject, plet, pcall, pck, pI_I, pI_L, pI_R, pL_I, pL_L, pL_R, pR_I, pR_L, pR_R, ho, if_neg hne]
    rfl
  rw [h1, m_ad_s hR ho ho2 (by omega), m_ad_s (mdR_L hR) (by exact ho) ho2 (by omega), m_ad_s (mdR_L (mdR_L hR)) (by exact ho) ho2 (by omega), m_ad_s (mdR_L (mdR_L (mdR_L hR))) (by exact ho) ho2 (by omega), m_ad_s (mdR_L (mdR_L (mdR_L (mdR_L hR)))) (by exact ho) ho2 (by omega), m_ad_s (mdR_L (mdR_L (mdR_L (mdR_L (mdR_L hR))))) (by exact ho) ho2 (by omega), addO_step]
  simp only [F_Md_addObject_13_b, if_pos (show (6 : Int32) ≤ nI (0 + 1 + 1 + 1 + 1 + 1 + 1) by decide), plet, pcall, pck, pI_I, pI_L, pI_R, pL_I, pL_L, pL_R, pR_I, pR_L, pR_R, ho, ← nI_succ, nI_pred, if_true]
  rfl
theorem m_addObject_n {M : zzM} {o : Nat} (ho : zzI M 28 28 = nI o) (ho2 : o = 12) (v : Int64) : F_Md_addObject lwSm M 28 v = some (-1, M) := by
  subst ho2
  simp only [F_Md_addObject, plet, pcall, pck, pI_I, pI_L, pI_R, pL_I, pL_L, pL_R, pR_I, pR_L, pR_R, ho]
  rw [if_pos (by decide)]
/-! resize and makeList -/
theorem p_len {x : Int64} (h : ¬ x < 0 ∧ x ≤ 20) : ∃ k, k ≤ 20 ∧ x.toInt32 = nI k := by
  have h2 : x < (nI 21).toInt64 := by
    have e : (nI 21).toInt64 = 21 := by decide
    have a := h.2
    rw [e, Int64.lt_iff_toInt_lt]
    rw [Int64.le_iff_toInt_le] at a
    have e0 : (20 : Int64).toInt = 20 := by decide
    have e1 : (21 : Int64).toInt = 21 := by decide
    omega
  obtain ⟨k, h3, h4, h5⟩ := pl_small (o := 21) (by omega) h.1 h2
  exact ⟨k, by omega, h4⟩
theorem c_resize {S : zzS} {M : zzM} (hS : clS S) (hC : clR M) (x : Int64) : F_Bd_resize S M 5 x = if ¬ x < 0 ∧ x ≤ 20 then some (1, zfl (zzsI M 5 3 x.toInt32) 7 20 0) else some (0, M) := by
  have hC1 : clR (zzsI M 5 3 x.toInt32) := hC
  simp only [F_Bd_resize, plet, pcall, pck, pI_I, pI_L, pI_R, pL_I, pL_L, pL_R, pR_I, pR_L, pR_R, pcmp_lt, pcmp_le, cR_5_2 hC, cr_7 hS, c_fill (cl_7 hS) (ck_7 hS) (cn_7 hS) (show 20 ≤ 1000 by omega)]
  by_cases h1 : x < 0
  · simp only [h1, if_true, not_true, false_and, if_false]
  · by_cases h2 : (20 : Int64) < x
    · have h3 : ¬ x ≤ 20 := fun h => absurd h2 (Int64.not_lt.mpr h)
      simp only [h1, h2, h3, not_true, not_false_iff, if_false, and_false]
    · have h3 : x ≤ 20 := Int64.not_lt.mp h2
      simp only [h1, h2, h3, not_false_iff, if_true, if_false, and_self]
theorem mkl_step {S : zzS} {n : Nat} : F_Md_makeList_24 S (n + 1) = F_Md_makeList_24_b S (F_Md_makeList_24 S n) := rfl
theorem m_mkl {M : zzM} (hR : mdR M) : ∀ (m k n : Nat), k + m = 20 → m < n → F_Md_makeList_24 lwSm n (zfl M 46 k 0) 28 (nI k) = some (1, zfl M 46 20 0)
  | 0, k, n + 1, h1, h2 => by
    have : k = 20 := by omega
    subst this
    rw [mkl_step]
    simp only [F_Md_makeList_24_b]
    rw [if_pos (by decide)]
  | m + 1, k, n + 1, h1, h2 => by
    have hR1 : mdR (zfl M 46 k 0) := hR
    rw [mkl_step]
    simp only [F_Md_makeList_24_b, if_neg (show ¬ (20 : Int32) ≤ nI k from nI_ge (b := 20) (by omega) (by omega)), mR_31 hR1, mr_46, pix (S := lwSm) mn_46 (show k < 20 by omega) (by omega), pnI (show k < 100000 by omega), plet, pcall, pck, pI_I, pI_L, pI_R, pL_I, pL_L, pL_R, pR_I, pR_L, pR_R, zfl_s, ← nI_succ]
    exact m_mkl hR m (k + 1) n (by omega) (by omega)
theorem m_makeList {M : zzM} (hR : mdR M) (x : Int64) : F_Md_makeList lwSm M 28 x = if ¬ x < 0 ∧ x ≤ 20 then some (1, zfl (zzsI M 28 30 x.toInt32) 46 20 0) else some (0, M) := by
  have hR1 : mdR (zzsI M 28 30 x.toInt32) := hR
  have h := m_mkl hR1 20 0 2000 (by omega) (by omega)
  rw [zfl_0] at h
  have h' : F_Md_makeList_24 lwSm 2000 (zzsI M 28 30 x.toInt32) 28 0 = some (1, zfl (zzsI M 28 30 x.toInt32) 46 20 0) := h
  simp only [F_Md_makeList, plet, pcall, pck, pI_I, pI_L, pI_R, pL_I, pL_L, pL_R, pR_I, pR_L, pR_R, pcmp_lt, pcmp_le, h']
  by_cases h1 : x < 0
  · simp only [h1, if_true, not_true, false_and, if_false]
  · by_cases h2 : (20 : Int64) < x
    · have h3 : ¬ x ≤ 20 := fun h => absurd h2 (Int64.not_lt.mpr h)
      simp only [h1, h2, h3, not_true, not_false_iff, if_false, and_false]
    · have h3 : x ≤ 20 := Int64.not_lt.mp h2
      simp only [h1, h2, h3, not_false_iff, if_true, if_false, and_self]
