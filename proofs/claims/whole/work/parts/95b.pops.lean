/-! one step's work in both -/
def errS (Mc Mc1 : zzM) : Prop := zzI Mc1 19 9 = zzI Mc 19 9 ∧ zzR Mc1 19 10 = zzR Mc 19 10 ∧ zzI Mc1 19 11 = zzI Mc 19 11
theorem errS.rf (M : zzM) : errS M M := ⟨rfl, rfl, rfl⟩
theorem errS.tr {M M1 M2 : zzM} (h : errS M M1) (g : errS M1 M2) : errS M M2 := ⟨g.1.trans h.1, g.2.1.trans h.2.1, g.2.2.trans h.2.2⟩
theorem errS_K {M M1 : zzM} (h : frK M M1) : errS M M1 := ⟨h.1 19 9 (by omega), by unfold zzR; rw [h.2.2], h.1 19 11 (by omega)⟩
def oO (S : zzS) (w p s t : Nat) (Mc Mm : zzM) (x : Option (Int32 × zzM)) (y : Option (Unit × zzM)) : Prop :=
  (∃ Mc1 Mm1 o ll, x = some (0, Mc1) ∧ y = some ((), Mm1) ∧ dW S Mc1 Mm1 w o ll t ∧ fX Mc Mc1 Mm Mm1 ∧ errS Mc Mc1) ∨
  (∃ Mc1 Mm1 o ll kd v, x = some (1, Mc1) ∧ y = zzcall (F_Md_raise lwSm Mm1 28 kd (nI p) v) (fun _ M => some ((), M)) ∧ kd ≠ 0 ∧ dW S Mc1 Mm1 w o ll t ∧ fX Mc Mc1 Mm Mm1 ∧ zzI Mc1 19 9 = kd ∧ zzR Mc1 19 10 = some s ∧ zzI Mc1 19 11 = v)
theorem c_fail {S : zzS} {M : zzM} (hS : clS S) (hC : clR M) (kd v : Int32) (s : Option Nat) : F_Wk_fail S M 27 kd s v = some (1, zzsI (zzsR (zzsI M 19 9 kd) 19 10 s) 19 11 v) := by
  simp only [F_Wk_fail, F_Rp_note, plet, pcall, pck, pI_I, pI_L, pI_R, pL_I, pL_L, pL_R, pR_I, pR_L, pR_R, cR_27_2 hC, cr_19 hS]
theorem oO_fail {S : zzS} {w p s t o ll : Nat} {Mc Mm Mc1 Mm1 : zzM} {x : Option (Int32 × zzM)} {y : Option (Unit × zzM)} {kd v : Int32} (hk : kd ≠ 0) (hD : dW S Mc1 Mm1 w o ll t) (hf : fX Mc Mc1 Mm Mm1) (hx : x = some (1, zzsI (zzsR (zzsI Mc1 19 9 kd) 19 10 (some s)) 19 11 v)) (hy : y = zzcall (F_Md_raise lwSm Mm1 28 kd (nI p) v) (fun _ M => some ((), M))) : oO S w p s t Mc Mm x y := by
  refine Or.inr ⟨_, Mm1, o, ll, kd, v, hx, hy, hk, hD.neu (ncF_e _ _ _) (nmF.rf _), hf.tr (fX_e _ _ _), ?_, ?_, ?_⟩ <;> simp [plet, pcall, pck, pI_I, pI_L, pI_R, pL_I, pL_L, pL_R, pR_I, pR_L, pR_R]
theorem cE_mE {S : zzS} {Mc Mm : zzM} {w o ll t : Nat} (hD : dW S Mc Mm w o ll t) : cE Mc o ll = mE Mm o ll := by
  unfold cE mE
  rw [hD.2.1, hD.1.2.2.2.2.1.1, hD.1.2.2.2.2.1.2.1]
/-- both reckon -/
theorem w_val {S : zzS} {Mc Mm : zzM} {w o ll t : Nat} {r : Option Nat} {f : Int32} (hD : dW S Mc Mm w o ll t) (he : exR S Mc Mm w r f) : ∃ Mc1 Mm1 er v, F_Rk_value S Mc 16 r = some (v, Mc1) ∧ F_Md_ask lwSm Mm 28 f = some (if er = 0 then 1 else 0, Mm1) ∧ frK Mc Mc1 ∧ frA Mm Mm1 ∧ zzI Mc1 16 4 = er ∧ zzI Mm1 28 66 = er ∧ (er = 0 → zzL Mm1 28 65 = v) := by
  obtain ⟨x, fn, cs, rfl, rfl, h1, h2, h3, h4, h5⟩ := he
  obtain ⟨Mc1, a1, a2, a3⟩ := c_value hD.1.1 h3 h5
  obtain ⟨Mm1, b1, b2, b3, b4⟩ := m_ask hD.1.2.1 hD.1.2.2.1 h4 h5
  rw [← cE_mE hD] at b1 b3 b4
  exact ⟨Mc1, Mm1, _, _, a1, b1, a2, b2, a3, b3, b4⟩
theorem dW.KA {S : zzS} {Mc Mm Mc1 Mm1 : zzM} {w o ll t : Nat} (hD : dW S Mc Mm w o ll t) (h : frK Mc Mc1) (g : frA Mm Mm1) : dW S Mc1 Mm1 w o ll t := hD.neu (ncF_K h) (nmF_A g)
theorem if10 {er : Int32} : (if er = 0 then (1 : Int32) else 0) = 0 ↔ er ≠ 0 := by
  by_cases h : er = 0
  · rw [if_pos h]; simp [h]
  · rw [if_neg h]; simp [h]
/-- data written -/
theorem updL {f g : Nat → Int64} {M N : zzM} {a b : Nat} (h : zzL M a = zzL N b) (k : Nat) (v : Int64) : zzL (zzsL M a k v) a = zzL (zzsL N b k v) b := by
  funext j
  rw [pL_L, pL_L, if_pos rfl, if_pos rfl, h]
theorem updI {M N : zzM} {a b : Nat} (h : zzI M a = zzI N b) (k : Nat) (v : Int32) : zzI (zzsI M a k v) a = zzI (zzsI N b k v) b := by
  funext j
  rw [pI_I, pI_I, if_pos rfl, if_pos rfl, h]
theorem dW.var {S : zzS} {Mc Mm : zzM} {w o ll t : Nat} (hD : dW S Mc Mm w o ll t) (k : Nat) (v : Int64) : dW S (zzsL Mc 17 k v) (zzsL Mm 47 k v) w o ll t := by
  obtain ⟨⟨h1, h2, h3, h4, ⟨v1, v2, v3, v4, v5, v6, v7, v8⟩, h6, h7, h8, h9⟩, h10, h11⟩ := hD
  exact ⟨⟨h1, h2, h3, h4, ⟨v1, v2, v3, v4, v5, v6, v7, v8⟩, h6, h7, h8, h9⟩, updL (f := zzL Mc 17) (g := zzL Mc 17) h10 k v, h11⟩
theorem dW.fld {S : zzS} {Mc Mm : zzM} {w o ll t : Nat} (hD : dW S Mc Mm w o ll t) (k : Nat) (v : Int64) : dW S (zzsL Mc 6 k v) (zzsL Mm 45 k v) w o ll t := by
  obtain ⟨⟨h1, h2, h3, h4, ⟨v1, v2, v3, v4, v5, v6, v7, v8⟩, h6, h7, h8, h9⟩, h10, h11⟩ := hD
  exact ⟨⟨h1, h2, h3, h4, ⟨updL (f := zzL Mc 17) (g := zzL Mc 17) v1 k v, v2, v3, v4, v5, v6, v7, v8⟩, h6, h7, h8, h9⟩, h10, h11⟩
theorem dW.plc {S : zzS} {Mc Mm : zzM} {w o ll t : Nat} (hD : dW S Mc Mm w o ll t) (k : Nat) (v : Int64) : dW S (zzsL Mc 7 k v) (zzsL Mm 46 k v) w o ll t := by
  obtain ⟨⟨h1, h2, h3, h4, ⟨v1, v2, v3, v4, v5, v6, v7, v8⟩, h6, h7, h8, h9⟩, h10, h11⟩ := hD
  exact ⟨⟨h1, h2, h3, h4, ⟨v1, updL (f := zzL Mc 17) (g := zzL Mc 17) v2 k v, v3, v4, v5, v6, v7, v8⟩, h6, h7, h8, h9⟩, h10, h11⟩
/-- the orders' arrays, read -/
theorem w_ix {a w i : Nat} {β : Type} (hn : zzn lwSm a = 1200) (hw : w ≤ 1) (hi : i < 600) (x : Option β) : zzix lwSm a (nI (600 * w + i)) x = x := pix hn (by omega) (by omega) x
theorem w_k {w i : Nat} (hw : w ≤ 1) (hi : i < 600) : (nI (600 * w + i)).toNatClampNeg = 600 * w + i := pnI (by omega)
/-- SET -/
theorem w_set {S : zzS} {Mc Mm : zzM} {w o ll t s p i v : Nat} (hD : dW S Mc Mm w o ll t) (hs : s < S.2.1) (hk : zzk S s = 13) (hi : i < 600) (hp : zzI Mm 28 51 = nI p) (hkd : zzI Mc s 0 = 97) (hs63 : 63 ≤ s) (hv : v < 26) (hv1 : zzI Mc s 3 = nI v) (hv2 : gvM Mm w i = nI v) (he : exR S Mc Mm w (zzR Mc s 5) (seM Mm w i)) : oO S w p s t Mc Mm (F_Wk_withValue S Mc 27 (some s)) (F_Md_store lwSm Mm 28 1 (nI (600 * w + i))) := by
  obtain ⟨hS, hC, -⟩ := hD.1.1
  obtain ⟨hR, -⟩ := hD.1.2.1
  have hw := hD.1.2.2.2.1
  obtain ⟨Mc1, Mm1, er, val, a1, a2, a3, a4, a5, a6, a7⟩ := w_val hD he
  have hC1 := a3.cR hC
  have hR1 := a4.R hR
  have f0 : ∀ j, zzI Mc1 s j = zzI Mc s j := fun j => a3.1 s j (by omega)
  have g1 : zzI Mm1 34 (600 * w + i) = nI v := (a4.1 34 _ (by omega)).trans hv2
  have g2 : zzI Mm1 28 51 = nI p := (a4.1 28 51 (by omega)).trans hp
  by_cases h0 : er = 0
  · subst h0
    have hvn : ¬ nI v < 0 := nI_pos (by omega)
    have hv26 : ¬ (26 : Int32) ≤ nI v := nI_ge (b := 26) hv (by omega)
    refine Or.inl ⟨_, _, o, ll, ?_, ?_, (hD.KA a3 a4).var v val, (fX_KA a3 a4).tr (fX_L (by omega) (by omega)), (errS_K a3).tr ⟨rfl, rfl, rfl⟩⟩
    · simp only [F_Wk_withValue, plet, pcall, pck, pI_I, pI_L, pI_R, pL_I, pL_L, pL_R, pR_I, pR_L, pR_R, cR_27_1 hC, cr_16 hS, poptp hs hk, a1, cR_27_1 hC1, a5, if_true, f0, hkd, hv1, if_neg hvn, if_neg hv26, cR_16_1 hC1, cr_17 hS, pix (cn_17 hS) hv (by omega), pnI (show v < 100000 by omega)]
      rw [if_neg (by decide), if_neg (by decide), if_neg (by decide), if_neg (by decide)]
    · simp only [F_Md_store, if_true, plet, pcall, pck, pI_I, pI_L, pI_R, pL_I, pL_L, pL_R, pR_I, pR_L, pR_R, mR_10 hR, mr_36, w_ix mn_36 hw hi, w_k hw hi, a2, mR_33 hR1, mr_47, mR_8 hR1, mr_34, w_ix mn_34 hw hi, g1, a7 rfl, pix (S := lwSm) mn_47 hv (by omega), pnI (show v < 100000 by omega)]
      rw [if_neg (by decide)]
  · refine oO_fail (kd := er) (v := 0) h0 (hD.KA a3 a4) (fX_KA a3 a4) ?_ ?_
    · simp only [F_Wk_withValue, plet, pcall, pck, pI_I, pI_L, pI_R, pL_I, pL_L, pL_R, pR_I, pR_L, pR_R, cR_27_1 hC, cr_16 hS, poptp hs hk, a1, cR_27_1 hC1, a5, if_neg h0, c_fail hS hC1]
    · simp only [F_Md_store, if_true, plet, pcall, pck, pI_I, pI_L, pI_R, pL_I, pL_L, pL_R, pR_I, pR_L, pR_R, mR_10 hR, mr_36, w_ix mn_36 hw hi, w_k hw hi, a2, if_pos (if10.mpr h0), a6, g2]
/-- setField -/
theorem w_fld {S : zzS} {Mc Mm : zzM} {w o ll t s p i v : Nat} (hD : dW S Mc Mm w o ll t) (hs : s < S.2.1) (hk : zzk S s = 13) (hi : i < 600) (hp : zzI Mm 28 51 = nI p) (hs63 : 63 ≤ s) (hv : v < 6) (hv1 : zzI Mc s 3 = nI v) (hv2 : gvM Mm w i = nI v) (he1 : exR S Mc Mm w (zzR Mc s 4) (fiM Mm w i)) (he : exR S Mc Mm w (zzR Mc s 5) (seM Mm w i)) : oO S w p s t Mc Mm (F_Wk_setField S Mc 27 (some s)) (F_Md_store lwSm Mm 28 2 (nI (600 * w + i))) := by
  obtain ⟨hS, hC, -⟩ := hD.1.1
  obtain ⟨hR, -⟩ := hD.1.2.1
  have hw := hD.1.2.2.2.1
  obtain ⟨Mc1, Mm1, er, x, a1, a2, a3, a4, a5, a6, a7⟩ := w_val hD he1
  have hD1 := hD.KA a3 a4
  have hC1 := a3.cR hC
  have hR1 := a4.R hR
  have f0 : ∀ j, zzI Mc1 s j = zzI Mc s j := fun j => a3.1 s j (by omega)
  have r0 : ∀ j, zzR Mc1 s j = zzR Mc s j := fun j => (fcC_K a3 s (by omega)).2 j
  have g2 : zzI Mm1 28 51 = nI p := (a4.1 28 51 (by omega)).trans hp
  have hst : F_Md_store lwSm Mm 28 2 (nI (600 * w + i)) = zzcall (F_Md_isObject lwSm Mm1 28 (zzL Mm1 28 65)) fun r9 M => F_Md_store_104 lwSm M 28 2 (nI (600 * w + i)) (if er = 0 then 1 else 0) (zzL Mm1 28 65) r9 := by
    simp only [F_Md_store, plet, pcall, pck, pI_I, pI_L, pI_R, pL_I, pL_L, pL_R, pR_I, pR_L, pR_R, mR_9 hR, mr_35, w_ix mn_35 hw hi, w_k hw hi, a2, if_true]
    rw [if_neg (by decide)]
  rw [hst, m_isObject hD1.1.2.1.2.1, pcall]
  by_cases h0 : er = 0
  · subst h0
    rw [a7 rfl]
    have hsl := c_slotOf (S := S) hD1.1.1.2.2.1 hD1.1.1.2.2.2.1 hv x
    by_cases hx : x < 0 ∨ ¬ x < (nI o).toInt64
    · rw [if_pos hx] at hsl
      refine oO_fail (kd := 2) (v := 0) (by decide) hD1 (fX_KA a3 a4) ?_ ?_
      · simp only [F_Wk_setField, plet, pcall, pck, pI_I, pI_L, pI_R, pL_I, pL_L, pL_R, pR_I, pR_L, pR_R, cR_27_1 hC, cr_16 hS, poptp hs hk, a1, cR_27_1 hC1, a5, if_true, cR_27_0 hC1, cr_5 hS, f0, hv1, hsl, c_fail hS hC1]
      · rw [if_pos hx]
        simp only [F_Md_store_104, plet, pcall, pck, pI_I, pI_L, pI_R, pL_I, pL_L, pL_R, pR_I, pR_L, pR_R, if_true, g2]
        rw [if_neg (by decide)]
    · rw [if_neg hx] at hsl
      have hx' := hx
      simp only [not_or, Classical.not_not] at hx'
      have ho12 := hD1.1.1.2.2.2.1
      obtain ⟨z, hz, e1, e2⟩ := pl_small (by omega) hx'.1 hx'.2
      rw [e1, pnI (show z < 100000 by omega)] at hsl
      obtain ⟨Mc2, Mm2, er2, y, b1, b2, b3, b4, b5, b6, b7⟩ := w_val hD1 (he.go (fcC_K a3) (fmC_A a4))
      have hC2 := b3.cR hC1
      have hR2 := b4.R hR1
      have hn1 : ¬ nI (6 * z + v) = -1 := fun h => by
        have h1 := nI_pos (n := 6 * z + v) (by omega)
        rw [h] at h1
        exact h1 (by decide)
      have gs : zzI Mm1 36 (600 * w + i) = seM Mm w i := a4.1 36 _ (by omega)
      have gg : zzI Mm2 34 (600 * w + i) = nI v := (b4.1 34 _ (by omega)).trans ((a4.1 34 _ (by omega)).trans hv2)
      have g3 : zzI Mm2 28 51 = nI p := (b4.1 28 51 (by omega)).trans g2
      have e6 : (6 : Int32) * nI z + nI v = nI (6 * z + v) := by show nI 6 * nI z + nI v = _; rw [nI_mul, nI_add]
      by_cases h2 : er2 = 0
      · subst h2
        refine Or.inl ⟨_, _, o, ll, ?_, ?_, (hD1.KA b3 b4).fld (6 * z + v) y, ((fX_KA a3 a4).tr (fX_KA b3 b4)).tr (fX_L (by omega) (by omega)), ((errS_K a3).tr (errS_K b3)).tr ⟨rfl, rfl, rfl⟩⟩
        · simp only [F_Wk_setField, plet, pcall, pck, pI_I, pI_L, pI_R, pL_I, pL_L, pL_R, pR_I, pR_L, pR_R, cR_27_1 hC, cr_16 hS, poptp hs hk, a1, cR_27_1 hC1, a5, if_true, cR_27_0 hC1, cr_5 hS, f0, hv1, hsl, if_neg hn1, r0, b1, cR_27_1 hC2, b5, cR_27_0 hC2, cR_5_0 hC2, cr_6 hS, pix (cn_6 hS) (show 6 * z + v < 72 by omega) (by omega), pnI (show 6 * z + v < 100000 by omega)]
        · rw [if_neg hx]
          simp only [F_Md_store_104, plet, pcall, pck, pI_I, pI_L, pI_R, pL_I, pL_L, pL_R, pR_I, pR_L, pR_R, if_true, mR_10 hR1, mr_36, w_ix mn_36 hw hi, w_k hw hi, gs, b2, mR_29 hR2, mr_45, e1, mR_8 hR2, mr_34, w_ix mn_34 hw hi, gg, e6, b7 rfl, pix (S := lwSm) mn_45 (show 6 * z + v < 72 by omega) (by omega), pnI (show 6 * z + v < 100000 by omega)]
          rw [if_neg (by decide), if_neg (by decide), if_neg (by decide)]
      · refine oO_fail (kd := er2) (v := 0) h2 (hD1.KA b3 b4) ((fX_KA a3 a4).tr (fX_KA b3 b4)) ?_ ?_
        · simp only [F_Wk_setField, plet, pcall, pck, pI_I, pI_L, pI_R, pL_I, pL_L, pL_R, pR_I, pR_L, pR_R, cR_27_1 hC, cr_16 hS, poptp hs hk, a1, cR_27_1 hC1, a5, if_true, cR_27_0 hC1, cr_5 hS, f0, hv1, hsl, if_neg hn1, r0, b1, cR_27_1 hC2, b5, if_neg h2, c_fail hS hC2]
        · rw [if_neg hx]
          simp only [F_Md_store_104, plet, pcall, pck, pI_I, pI_L, pI_R, pL_I, pL_L, pL_R, pR_I, pR_L, pR_R, if_true, mR_10 hR1, mr_36, w_ix mn_36 hw hi, w_k hw hi, gs, b2, if_pos (if10.mpr h2), b6, g3]
          rw [if_neg (by decide), if_neg (by decide)]
  · refine oO_fail (kd := er) (v := 0) h0 hD1 (fX_KA a3 a4) ?_ ?_
    · simp only [F_Wk_setField, plet, pcall, pck, pI_I, pI_L, pI_R, pL_I, pL_L, pL_R, pR_I, pR_L, pR_R, cR_27_1 hC, cr_16 hS, poptp hs hk, a1, cR_27_1 hC1, a5, if_neg h0, c_fail hS hC1]
    · simp only [F_Md_store_104, plet, pcall, pck, pI_I, pI_L, pI_R, pL_I, pL_L, pL_R, pR_I, pR_L, pR_R, if_pos (if10.mpr h0), a6, g2]
/-- setPlace -/
theorem w_plc {S : zzS} {Mc Mm : zzM} {w o ll t s p i : Nat} (hD : dW S Mc Mm w o ll t) (hs : s < S.2.1) (hk : zzk S s = 13) (hi : i < 600) (hp : zzI Mm 28 51 = nI p) (hs63 : 63 ≤ s) (he1 : exR S Mc Mm w (zzR Mc s 4) (fiM Mm w i)) (he : exR S Mc Mm w (zzR Mc s 5) (seM Mm w i)) : oO S w p s t Mc Mm (F_Wk_setPlace S Mc 27 (some s)) (F_Md_store lwSm Mm 28 3 (nI (600 * w + i))) := by
  obtain ⟨hS, hC, -⟩ := hD.1.1
  obtain ⟨hR, -⟩ := hD.1.2.1
  have hw := hD.1.2.2.2.1
  obtain ⟨Mc1, Mm1, er, x, a1, a2, a3, a4, a5, a6, a7⟩ := w_val hD he1
  have hD1 := hD.KA a3 a4
  have hC1 := a3.cR hC
  have hR1 := a4.R hR
  have r0 : ∀ j, zzR Mc1 s j = zzR Mc s j := fun j => (fcC_K a3 s (by omega)).2 j
  have g2 : zzI Mm1 28 51 = nI p := (a4.1 28 51 (by omega)).trans hp
  have hst : F_Md_store lwSm Mm 28 3 (nI (600 * w + i)) = F_Md_store_104 lwSm Mm1 28 3 (nI (600 * w + i)) (if er = 0 then 1 else 0) (zzL Mm1 28 65) (if zzL Mm1 28 65 < 0 ∨ ¬ zzL Mm1 28 65 < (nI ll).toInt64 then 0 else 1) := by
    simp only [F_Md_store, F_Md_store_103, plet, pcall, pck, pI_I, pI_L, pI_R, pL_I, pL_L, pL_R, pR_I, pR_L, pR_R, mR_9 hR, mr_35, w_ix mn_35 hw hi, w_k hw hi, a2, if_true, hD1.1.2.1.2.2.2.1, pcmp_lt, pcmp_ge]
    rw [if_neg (by decide), if_neg (by decide)]
    by_cases h1 : zzL Mm1 28 65 < 0
    · simp only [h1, true_or, if_true]
    · by_cases h2 : zzL Mm1 28 65 < (nI ll).toInt64
      · simp only [h1, h2, not_true, or_self, if_false]
      · simp only [h1, h2, not_false_iff, or_true, if_true, if_false]
  rw [hst]
  by_cases h0 : er = 0
  · subst h0
    rw [a7 rfl]
    have hsl := c_placeOf (S := S) (M := Mc1) hD1.1.1.2.2.2.2.1 x
    by_cases hx : x < 0 ∨ ¬ x < (nI ll).toInt64
    · rw [if_pos hx] at hsl
      refine oO_fail (kd := 2) (v := 0) (by decide) hD1 (fX_KA a3 a4) ?_ ?_
      · simp only [F_Wk_setPlace, plet, pcall, pck, pI_I, pI_L, pI_R, pL_I, pL_L, pL_R, pR_I, pR_L, pR_R, cR_27_1 hC, cr_16 hS, poptp hs hk, a1, cR_27_1 hC1, a5, if_true, cR_27_0 hC1, cr_5 hS, hsl, c_fail hS hC1]
      · rw [if_pos hx]
        simp only [F_Md_store_104, plet, pcall, pck, pI_I, pI_L, pI_R, pL_I, pL_L, pL_R, pR_I, pR_L, pR_R, if_true, g2]
        rw [if_neg (by decide)]
    · rw [if_neg hx] at hsl
      have hx' := hx
      simp only [not_or, Classical.not_not] at hx'
      have ho12 := hD1.1.1.2.2.2.2.2
      obtain ⟨z, hz, e1, e2⟩ := pl_small (by omega) hx'.1 hx'.2
      rw [e1] at hsl
      obtain ⟨Mc2, Mm2, er2, y, b1, b2, b3, b4, b5, b6, b7⟩ := w_val hD1 (he.go (fcC_K a3) (fmC_A a4))
      have hC2 := b3.cR hC1
      have hR2 := b4.R hR1
      have hn1 : ¬ nI z = -1 := fun h => by
        have h1 := nI_pos (n := z) (by omega)
        rw [h] at h1
        exact h1 (by decide)
      have gs : zzI Mm1 36 (600 * w + i) = seM Mm w i := a4.1 36 _ (by omega)
      have g3 : zzI Mm2 28 51 = nI p := (b4.1 28 51 (by omega)).trans g2
      by_cases h2 : er2 = 0
      · subst h2
        refine Or.inl ⟨_, _, o, ll, ?_, ?_, (hD1.KA b3 b4).plc z y, ((fX_KA a3 a4).tr (fX_KA b3 b4)).tr (fX_L (by omega) (by omega)), ((errS_K a3).tr (errS_K b3)).tr ⟨rfl, rfl, rfl⟩⟩
        · simp only [F_Wk_setPlace, plet, pcall, pck, pI_I, pI_L, pI_R, pL_I, pL_L, pL_R, pR_I, pR_L, pR_R, cR_27_1 hC, cr_16 hS, poptp hs hk, a1, cR_27_1 hC1, a5, if_true, cR_27_0 hC1, cr_5 hS, hsl, if_neg hn1, r0, b1, cR_27_1 hC2, b5, cR_27_0 hC2, cR_5_2 hC2, cr_7 hS, pix (cn_7 hS) (show z < 20 by omega) (by omega), pnI (show z < 100000 by omega)]
        · rw [if_neg hx]
          simp only [F_Md_store_104, plet, pcall, pck, pI_I, pI_L, pI_R, pL_I, pL_L, pL_R, pR_I, pR_L, pR_R, if_true, mR_10 hR1, mr_36, w_ix mn_36 hw hi, w_k hw hi, gs, b2, mR_31 hR2, mr_46, e1, b7 rfl, pix (S := lwSm) mn_46 (show z < 20 by omega) (by omega), pnI (show z < 100000 by omega)]
          rw [if_neg (by decide), if_neg (by decide), if_neg (by decide), if_neg (by decide)]
      · refine oO_fail (kd := er2) (v := 0) h2 (hD1.KA b3 b4) ((fX_KA a3 a4).tr (fX_KA b3 b4)) ?_ ?_
        · simp only [F_Wk_setPlace, plet, pcall, pck, pI_I, pI_L, pI_R, pL_I, pL_L, pL_R, pR_I, pR_L, pR_R, cR_27_1 hC, cr_16 hS, poptp hs hk, a1, cR_27_1 hC1, a5, if_true, cR_27_0 hC1, cr_5 hS, hsl, if_neg hn1, r0, b1, cR_27_1 hC2, b5, if_neg h2, c_fail hS hC2]
        · rw [if_neg hx]
          simp only [F_Md_store_104, plet, pcall, pck, pI_I, pI_L, pI_R, pL_I, pL_L, pL_R, pR_I, pR_L, pR_R, if_true, mR_10 hR1, mr_36, w_ix mn_36 hw hi, w_k hw hi, gs, b2, if_pos (if10.mpr h2), b6, g3]
          rw [if_neg (by decide), if_neg (by decide)]
  · refine oO_fail (kd := er) (v := 0) h0 hD1 (fX_KA a3 a4) ?_ ?_
    · simp only [F_Wk_setPlace, plet, pcall, pck, pI_I, pI_L, pI_R, pL_I, pL_L, pL_R, pR_I, pR_L, pR_R, cR_27_1 hC, cr_16 hS, poptp hs hk, a1, cR_27_1 hC1, a5, if_neg h0, c_fail hS hC1]
    · simp only [F_Md_store_104, plet, pcall, pck, pI_I, pI_L, pI_R, pL_I, pL_L, pL_R, pR_I, pR_L, pR_R, if_pos (if10.mpr h0), a6, g2]
