/-! forgetting; clear -/
def cfgt (M : zzM) : zzM := zzsI (zzsR (zzsI (zzsI (zzsI (zzsI (zzsI (zzsI (zzsI M 19 1 0) 19 3 0) 19 5 0) 19 6 0) 19 7 0) 19 8 0) 19 9 0) 19 10 none) 19 11 0
def mfgs (M : zzM) : zzM := zzsI (zzsI (zzsI (zzsI (zzsI (zzsI (zzsI (zzsI (zzsI (zzsL M 28 35 0) 28 36 0) 28 38 0) 28 40 0) 28 42 0) 28 44 0) 28 45 0) 28 46 0) 28 47 (-1)) 28 48 0
def mfgt (M : zzM) : zzM := mfgs (zfl M 47 26 0)
theorem c_forget {S : zzS} {M : zzM} : F_Rp_forget S M 19 = some ((), cfgt M) := by
  have hz : zzokZ 0 = true := by decide
  simp only [F_Rp_forget, F_Rp_note, plet, hz, pck, pcall, cfgt]
theorem fgt_step {n : Nat} : F_Md_forget_2 lwSm (n + 1) = F_Md_forget_2_b lwSm (F_Md_forget_2 lwSm n) := rfl
theorem m_fgt {M : zzM} (hR : mdR M) : ∀ (m k n : Nat), k + m = 26 → m < n → F_Md_forget_2 lwSm n (zfl M 47 k 0) 28 (nI k) = some ((), mfgt M)
  | 0, k, n + 1, hk, _ => by
    have hk : k = 26 := by omega
    subst hk
    have hz : zzokZ 0 = true := by decide
    rw [fgt_step]
    unfold F_Md_forget_2_b
    rw [if_pos (by decide)]
    simp only [plet, hz, pck]
    rfl
  | m + 1, k, n + 1, hk, hn => by
    have ih := m_fgt hR m (k + 1) n (by omega) (by omega)
    have hR1 : mdR (zfl M 47 k 0) := hR
    rw [fgt_step]
    unfold F_Md_forget_2_b
    rw [if_neg (show ¬ (26 : Int32) ≤ nI k from nI_ge (b := 26) (by omega) (by omega)), mR_33 hR1, mr_47, pix mn_47 (show k < 26 by omega) (by omega), plet, plet, pnI (show k < 100000 by omega), zfl_s, ← nI_succ]
    exact ih
theorem m_forget {M : zzM} (hR : mdR M) : F_Md_forget lwSm M 28 = some ((), mfgt M) := by
  have := m_fgt hR 26 0 2000 (by omega) (by omega)
  rw [zfl_0] at this
  exact this
theorem cfgt_I {M : zzM} {a k : Nat} (h : a ≠ 19) : zzI (cfgt M) a k = zzI M a k := by simp only [cfgt, plet, pcall, pck, pI_I, pI_L, pI_R, pL_I, pL_L, pL_R, pR_I, pR_L, pR_R, if_neg h]
theorem cfgt_L {M : zzM} {a k : Nat} : zzL (cfgt M) a k = zzL M a k := rfl
theorem cfgt_R {M : zzM} {a k : Nat} (h : ¬ (a = 19 ∧ k = 10)) : zzR (cfgt M) a k = zzR M a k := by
  simp only [cfgt, plet, pcall, pck, pI_I, pI_L, pI_R, pL_I, pL_L, pL_R, pR_I, pR_L, pR_R]
  by_cases h1 : a = 19
  · rw [if_pos h1, if_neg (fun e => h ⟨h1, e⟩)]
  · rw [if_neg h1]
theorem mfgt_I {M : zzM} {a k : Nat} (h : a ≠ 28 ∨ k < 36 ∨ 48 < k) : zzI (mfgt M) a k = zzI M a k := by
  have e : zzI (zfl M 47 26 0) a k = zzI M a k := rfl
  simp only [mfgt, mfgs, plet, pcall, pck, pI_I, pI_L, pI_R, pL_I, pL_L, pL_R, pR_I, pR_L, pR_R]
  by_cases h1 : a = 28
  · rw [if_pos h1, if_neg (by omega), if_pos h1, if_neg (by omega), if_pos h1, if_neg (by omega), if_pos h1, if_neg (by omega), if_pos h1, if_neg (by omega), if_pos h1, if_neg (by omega), if_pos h1, if_neg (by omega), if_pos h1, if_neg (by omega), if_pos h1, if_neg (by omega), e]
  · rw [if_neg h1, if_neg h1, if_neg h1, if_neg h1, if_neg h1, if_neg h1, if_neg h1, if_neg h1, if_neg h1, e]
theorem mfgt_L {M : zzM} {a k : Nat} (h1 : ¬ (a = 28 ∧ k = 35)) (h2 : a ≠ 47) : zzL (mfgt M) a k = zzL M a k := by
  have e : zzL (zfl M 47 26 0) a k = zzL M a k := congrFun (zfl_o h2) k
  simp only [mfgt, mfgs, plet, pcall, pck, pI_I, pI_L, pI_R, pL_I, pL_L, pL_R, pR_I, pR_L, pR_R]
  by_cases h3 : a = 28
  · rw [if_pos h3, if_neg (fun e => h1 ⟨h3, e⟩), e]
  · rw [if_neg h3, e]
theorem mfgt_47 {M : zzM} {k : Nat} : zzL (mfgt M) 47 k = if k < 26 then 0 else zzL M 47 k := by
  show zzL (zfl M 47 26 0) 47 k = _
  simp [zfl, zzL]
theorem mfgt_v {M : zzM} : zzL (mfgt M) 28 35 = 0 ∧ zzI (mfgt M) 28 36 = 0 ∧ zzI (mfgt M) 28 38 = 0 ∧ zzI (mfgt M) 28 40 = 0 ∧ zzI (mfgt M) 28 42 = 0 ∧ zzI (mfgt M) 28 44 = 0 ∧ zzI (mfgt M) 28 45 = 0 ∧ zzI (mfgt M) 28 46 = 0 ∧ zzI (mfgt M) 28 47 = -1 ∧ zzI (mfgt M) 28 48 = 0 := by
  refine ⟨?_, ?_, ?_, ?_, ?_, ?_, ?_, ?_, ?_, ?_⟩ <;> simp [mfgt, mfgs, plet, pcall, pck, pI_I, pI_L, pI_R, pL_I, pL_L, pL_R, pR_I, pR_L, pR_R]
theorem cfgt_v {M : zzM} : zzI (cfgt M) 19 1 = 0 ∧ zzI (cfgt M) 19 3 = 0 ∧ zzI (cfgt M) 19 5 = 0 ∧ zzI (cfgt M) 19 6 = 0 ∧ zzI (cfgt M) 19 7 = 0 ∧ zzI (cfgt M) 19 8 = 0 ∧ zzI (cfgt M) 19 9 = 0 ∧ zzR (cfgt M) 19 10 = none ∧ zzI (cfgt M) 19 11 = 0 := by
  refine ⟨?_, ?_, ?_, ?_, ?_, ?_, ?_, ?_, ?_⟩ <;> simp [cfgt, plet, pcall, pck, pI_I, pI_L, pI_R, pL_I, pL_L, pL_R, pR_I, pR_L, pR_R]
theorem pu_new {S : zzS} {Mc Mm : zzM} {T : Nat → Nat} {N w o ll sc : Nat} (hS : clS S) (hC : clR Mc) (hR : mdR Mm) (h3 : zzI Mm 28 3 = nI w) (hw : w ≤ 1) (ho1 : zzI Mc 5 1 = nI o) (ho2 : o ≤ 12) (ho3 : zzI Mm 28 28 = nI o) (hl1 : zzI Mc 5 3 = nI ll) (hl2 : ll ≤ 20) (hl3 : zzI Mm 28 30 = nI ll) (v1 : zzL Mc 6 = zzL Mm 45) (v2 : zzL Mc 7 = zzL Mm 46) (v4 : zzI Mc 20 = zzI Mm 48) (v6 : zzI Mc 22 = zzI Mm 51) (va : ∀ j, 26 ≤ j → zzL Mc 17 j = zzL Mm 47 j) (tx : txR Mc Mm T N) (fa : zzI Mc 0 2 = zzI Mm 28 32) (h4 : zzR Mc 0 4 = some sc) (hsc : scR S Mc Mm w sc) : puX S (cfgt Mc) (mfgt Mm) T N w o ll 0 sc := by
  obtain ⟨m1, m2, m3, m4, m5, m6, m7, m8, m9, m10⟩ := mfgt_v (M := Mm)
  obtain ⟨c1, c2, c3, c4, c5, c6, c7, c8, c9⟩ := cfgt_v (M := Mc)
  have hCW : fcW S Mc (cfgt Mc) := fun a _ ha => ⟨fun j => cfgt_I (by omega), fun j => cfgt_R (by omega)⟩
  have hMW : fmW w Mm (mfgt Mm) := ⟨fun _ _ => mfgt_I (by omega), fun _ _ _ _ _ => mfgt_I (by omega), fun _ _ => mfgt_I (by omega), fun _ _ _ _ => mfgt_I (by omega)⟩
  have n0 : nI 0 = (0 : Int32) := nI_0
  refine ⟨⟨⟨hS, fun q hq => ?_, (cfgt_I (by omega)).trans ho1, ho2, (cfgt_I (by omega)).trans hl1, hl2⟩, ⟨hR, (mfgt_I (by omega)).trans ho3, ho2, (mfgt_I (by omega)).trans hl3, hl2⟩, (mfgt_I (by omega)).trans h3, hw, ⟨?_, ?_, ⟨0, by omega, c1.trans n0.symm, m2.trans n0.symm⟩, ?_, ⟨0, by omega, c3.trans n0.symm, m5.trans n0.symm⟩, ?_, ?_, c5.trans m6.symm, by rw [c5]; decide⟩, ⟨0, by omega, c2.trans n0.symm, m3.trans n0.symm, fun i hi => absurd hi (by omega)⟩, c6.trans n0.symm, m1, by omega⟩, ⟨Or.inl c2, fun j hj => ?_⟩, ⟨tx.1, (cfgt_I (by omega)).trans tx.2.1, (mfgt_I (by omega)).trans tx.2.2.1, fun i hi => ⟨(cfgt_I (by omega)).trans (tx.2.2.2 i hi).1, (mfgt_I (by omega)).trans (tx.2.2.2 i hi).2.1, (tx.2.2.2 i hi).2.2⟩⟩, ?_, (cfgt_R (by omega)).trans h4, hsc.gw hS (gS.rf _) hCW hMW, c7.trans m8.symm, c9.trans m10.symm, Or.inl ⟨c8, m9⟩⟩
  · have hs2 : ∀ q ∈ lwrc, ¬ (q.1 = 19 ∧ q.2.1 = 10) := by decide
    rw [cfgt_R (hs2 q hq)]
    exact hC q hq
  · funext j; rw [cfgt_L, mfgt_L (by omega) (by omega)]; exact congrFun v1 j
  · funext j; rw [cfgt_L, mfgt_L (by omega) (by omega)]; exact congrFun v2 j
  · funext j; rw [cfgt_I (by omega), mfgt_I (by omega)]; exact congrFun v4 j
  · funext j; rw [cfgt_I (by omega), mfgt_I (by omega)]; exact congrFun v6 j
  · rw [fnR_bt, c4, m4]
    have e : btL 0 12 = [] := by decide
    rw [e]
    exact ⟨n0.symm, fun i o h => by simp at h⟩
  · rw [cfgt_L, mfgt_47, if_neg (by omega)]; exact va j hj
  · rw [cfgt_I (by omega), mfgt_I (by omega)]; exact fa
theorem sc_blank {S : zzS} {Mc Mm : zzM} {w : Nat} (hS : clS S) (hC : clR Mc) (h : odM Mm w 0 = 20) : scR S Mc Mm w 2 := by
  have hb : bkP S 3 := ⟨cl_3 hS, ck_3 hS, by omega⟩
  exact ⟨cl_2 hS, ck_2 hS, by omega, 3, 4, 0, cR_2_0 hC, cR_2_1 hC, hb, ⟨hb, by omega, [], cR_3_0 hC, rfl⟩, h, Or.inl ⟨cR_3_0 hC, rfl⟩⟩
theorem pu_clear {S : zzS} {Mc Mm : zzM} (H : puRel S Mc Mm) : lwO_clear puRel S Mc Mm := by
  obtain ⟨T, N, w, o, ll, t, sc, H⟩ := H
  obtain ⟨hS, hC, hR, h63⟩ := pu_dat H
  obtain ⟨⟨_, _, d3, d4, ⟨v1, v2, v3, v4, v5, v6, v7, v8, v9⟩, _⟩, ⟨_, va⟩, _⟩ := H
  have hC1 : clR (zzsR (zzsI (zzsI Mc 0 1 0) 0 2 (-1)) 0 4 (some 2)) := clR_R (clR_I (clR_I hC)) (by decide)
  have hec : F_Bs_clear S Mc 0 = some ((), cfgt (zzsI (zzsI (zzsR (zzsI (zzsI Mc 0 1 0) 0 2 (-1)) 0 4 (some 2)) 5 1 0) 5 3 0)) := by
    simp only [F_Bs_clear, F_Bd_empty]
    rw [plet, plet, cR_0_3 (clR_I (clR_I hC)), cr_2 hS, plet, cR_0_5 hC1, cr_5 hS, plet, plet, pcall, cR_0_7 (clR_I (clR_I hC1)), cr_19 hS, c_forget, pcall]
  have hR1 : mdR (zzsI (zzsI (zzsI (zzsI (zzsI (zzsI Mm 28 0 0) 28 1 0) 28 28 0) 28 30 0) 28 32 (-1)) 30 0 0) := hR
  have hR2 : mdR (zzsI (zzsI (zzsI (zzsI (zzsI (zzsI (zzsI Mm 28 0 0) 28 1 0) 28 28 0) 28 30 0) 28 32 (-1)) 30 0 0) 30 1 0) := hR
  have hR0 : mdR (zzsI (zzsI (zzsI (zzsI (zzsI Mm 28 0 0) 28 1 0) 28 28 0) 28 30 0) 28 32 (-1)) := hR
  have d3' : zzI (zzsI (zzsI (zzsI (zzsI (zzsI (zzsI (zzsI Mm 28 0 0) 28 1 0) 28 28 0) 28 30 0) 28 32 (-1)) 30 0 0) 30 1 0) 28 3 = nI w := d3
  have e6w : (600 : Int32) * nI w = nI (600 * w) := by show nI 600 * nI w = _; rw [nI_mul]
  have hem : F_Md_clear lwSm Mm 28 = some ((), mfgt (zzsI (zzsI (zzsI (zzsI (zzsI (zzsI (zzsI (zzsI Mm 28 0 0) 28 1 0) 28 28 0) 28 30 0) 28 32 (-1)) 30 0 0) 30 1 0) 32 (600 * w) 20)) := by
    have s : ∀ n, F_Md_empty_22 lwSm (n + 1) = F_Md_empty_22_b lwSm (F_Md_empty_22 lwSm n) := fun _ => rfl
    have hx0 : ∀ x : Option (Unit × zzM), zzix lwSm 30 0 x = x := fun x => pix (S := lwSm) (k := 0) mn_30 (by omega) (by omega) x
    have hx1 : ∀ x : Option (Unit × zzM), zzix lwSm 30 1 x = x := fun x => pix (S := lwSm) (k := 1) mn_30 (by omega) (by omega) x
    have hn1 : (0 : Int32) + 1 = 1 := by decide
    have hn2 : (1 : Int32) + 1 = 2 := by decide
    have t0 : (0 : Int32).toNatClampNeg = 0 := by decide
    have t1 : (1 : Int32).toNatClampNeg = 1 := by decide
    have hR3 : mdR (zzsI (zzsI (zzsI (zzsI (zzsI (zzsI (zzsI (zzsI Mm 28 0 0) 28 1 0) 28 28 0) 28 30 0) 28 32 (-1)) 30 0 0) 30 1 0) 32 (600 * w) 20) := hR
    unfold F_Md_clear F_Md_empty
    rw [plet, plet, plet, plet, plet, s 1999]
    unfold F_Md_empty_22_b
    rw [if_neg (by decide), mR_4 hR0, mr_30, hx0, plet, plet, hn1, t0, s 1998]
    unfold F_Md_empty_22_b
    rw [if_neg (by decide), mR_4 hR1, mr_30, hx1, plet, plet, hn2, t1, s 1997]
    unfold F_Md_empty_22_b
    rw [if_pos (by decide), mR_6 hR2, mr_32, plet, d3', plet, e6w, pix mn_32 (show 600 * w < 1200 by omega) (by omega), plet, pnI (show 600 * w < 100000 by omega), m_forget hR3, pcall, pcall]
  refine ⟨_, _, hec, hem, T, 0, w, 0, 0, 0, 2, ?_⟩
  have hC2 : clR (zzsI (zzsI (zzsR (zzsI (zzsI Mc 0 1 0) 0 2 (-1)) 0 4 (some 2)) 5 1 0) 5 3 0) := hC1
  refine pu_new hS hC2 hR (w := w) ?_ d4 (by simp [plet, pcall, pck, pI_I, pI_L, pI_R, pL_I, pL_L, pL_R, pR_I, pR_L, pR_R, nI_0]) (by omega) (by simp [plet, pcall, pck, pI_I, pI_L, pI_R, pL_I, pL_L, pL_R, pR_I, pR_L, pR_R, nI_0]) (by simp [plet, pcall, pck, pI_I, pI_L, pI_R, pL_I, pL_L, pL_R, pR_I, pR_L, pR_R, nI_0]) (by omega) (by simp [plet, pcall, pck, pI_I, pI_L, pI_R, pL_I, pL_L, pL_R, pR_I, pR_L, pR_R, nI_0]) v1 v2 ?_ ?_ va ⟨by omega, by simp [plet, pcall, pck, pI_I, pI_L, pI_R, pL_I, pL_L, pL_R, pR_I, pR_L, pR_R, nI_0], by simp [plet, pcall, pck, pI_I, pI_L, pI_R, pL_I, pL_L, pL_R, pR_I, pR_L, pR_R, nI_0], fun i hi => absurd hi (by omega)⟩ (by simp [plet, pcall, pck, pI_I, pI_L, pI_R, pL_I, pL_L, pL_R, pR_I, pR_L, pR_R]) (by simp [plet, pcall, pck, pI_I, pI_L, pI_R, pL_I, pL_L, pL_R, pR_I, pR_L, pR_R]) (sc_blank hS hC2 (by simp [odM, plet, pcall, pck, pI_I, pI_L, pI_R, pL_I, pL_L, pL_R, pR_I, pR_L, pR_R]))
  · simpa [plet, pcall, pck, pI_I, pI_L, pI_R, pL_I, pL_L, pL_R, pR_I, pR_L, pR_R] using d3
  · funext j; simp [plet, pcall, pck, pI_I, pI_L, pI_R, pL_I, pL_L, pL_R, pR_I, pR_L, pR_R, v4]
  · funext j; simp [plet, pcall, pck, pI_I, pI_L, pI_R, pL_I, pL_L, pL_R, pR_I, pR_L, pR_R, v6]
