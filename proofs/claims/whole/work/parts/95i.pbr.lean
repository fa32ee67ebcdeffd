/-! branches and loops -/
theorem mS.A {M M1 : zzM} {i c h : Nat} (H : mS M i c h) (f : frA M M1) : mS M1 i c h := ⟨(f.1 28 52 (by omega)).trans H.1, (f.1 28 53 (by omega)).trans H.2.1, (f.1 28 55 (by omega)).trans H.2.2.1, (f.1 28 49 (by omega)).trans H.2.2.2.1, (f.1 28 50 (by omega)).trans H.2.2.2.2⟩
theorem st_val {S : zzS} {Mc Mm : zzM} {w o ll t lim i c h l s p : Nat} (hD : dW S Mc Mm w o ll t) (ht : t < lim) (hlim : lim ≤ 300) (hm : mS Mm i c h) (hl : l ≤ 6) (h63 : 63 ≤ s) (he : exR S Mc Mm w (zzR Mc s 5) (seM Mm w i)) : ∃ Mc1 Mm1 er v, F_Rk_value S (cst Mc t) 16 (zzR (cst Mc t) s 5) = some (v, Mc1) ∧ F_Md_ask lwSm (mst Mm i t (nI p)) 28 (seM (mst Mm i t (nI p)) w i) = some (if er = 0 then 1 else 0, Mm1) ∧ frK (cst Mc t) Mc1 ∧ frA (mst Mm i t (nI p)) Mm1 ∧ zzI Mc1 16 4 = er ∧ zzI Mm1 28 66 = er ∧ (er = 0 → zzL Mm1 28 65 = v) ∧ dW S Mc1 Mm1 w o ll (t + 1) ∧ mS Mm1 (i + 1) c h ∧ fw l h c Mc Mc1 Mm Mm1 ∧ errS Mc Mc1 ∧ zzI Mm1 28 51 = nI p ∧ dW S (cst Mc t) (mst Mm i t (nI p)) w o ll (t + 1) := by
  obtain ⟨g1, g2, g3, g4, g5⟩ := st_facts (l := l) (p := p) hD (by omega) hm
  have he1 : exR S (cst Mc t) (mst Mm i t (nI p)) w (zzR (cst Mc t) s 5) (seM (mst Mm i t (nI p)) w i) := by
    rw [(g3.1 s (by omega)).2 5, seM, g3.2.2.1.1 36 (by omega) (by omega)]
    exact he.go g3.1 g3.2.2.1
  obtain ⟨Mc1, Mm1, er, v, a1, a2, a3, a4, a5, a6, a7⟩ := w_val g1 he1
  exact ⟨Mc1, Mm1, er, v, a1, a2, a3, a4, a5, a6, a7, g1.KA a3 a4, g2.A a4, g3.tr ((fX_KA a3 a4).w hl), g4.tr (errS_K a3), (a4.1 28 51 (by omega)).trans g5, g1⟩
theorem m_act56 {Mm Mm1 : zzM} {w i p : Nat} {kd er : Int32} (hR : mdR Mm) (hw : w ≤ 1) (hi : i < 600) (hkd : kd = 5 ∨ kd = 6) (a2 : F_Md_ask lwSm Mm 28 (seM Mm w i) = some (if er = 0 then 1 else 0, Mm1)) (a4 : frA Mm Mm1) (a6 : zzI Mm1 28 66 = er) (hp : zzI Mm1 28 51 = nI p) : F_Md_act lwSm Mm 28 kd (nI (600 * w + i)) = if er = 0 then some ((), if zzL Mm1 28 65 = 0 then zzsI Mm1 28 52 (tgM Mm1 w i) else Mm1) else zzcall (F_Md_raise lwSm Mm1 28 er (nI p) 0) (fun _ M => some ((), M)) := by
  have hR1 := a4.R hR
  have e : F_Md_act lwSm Mm 28 kd (nI (600 * w + i)) = zzcall (F_Md_ask lwSm Mm 28 (seM Mm w i)) fun r3 M => if r3 = 0 then (zzlet (zzI M 28 66) fun x27 => zzlet (zzI M 28 51) fun x28 => zzcall (F_Md_raise lwSm M 28 x27 x28 (0 : Int32)) fun r29 M => some ((), M)) else (zzlet (zzL M 28 65) fun x4 => zzlet (lg_cmp x4 (0 : Int64)) fun x5 => if x5 = 0 then (zzref lwSm 1 (zzR M 28 11) fun b6 => zzix lwSm b6 (nI (600 * w + i)) (zzlet (zzI M b6 ((nI (600 * w + i))).toNatClampNeg) fun x7 => zzlet (zzsI M 28 52 x7) fun M => some ((), M))) else (some ((), M))) := by
    simp only [F_Md_act, plet, mR_10 hR, mr_36, w_ix mn_36 hw hi, w_k hw hi]
    rcases hkd with h | h <;> subst h <;> rfl
  rw [e, a2, pcall]
  by_cases h0 : er = 0
  · subst h0
    simp only [if_true, plet, pcmp_eq, mR_11 hR1, mr_37, w_ix mn_37 hw hi, w_k hw hi]
    rw [if_neg (by decide)]
    by_cases hv : zzL Mm1 28 65 = 0
    · rw [if_pos hv, if_pos hv]
    · rw [if_neg hv, if_neg hv]
  · rw [if_pos (if10.mpr h0), if_neg h0]
    simp only [plet, a6, hp]
theorem rn_st {Mm : zzM} {w i t lim p c h : Nat} {kd : Int32} {y : Option (Unit × zzM)} (hR : mdR Mm) (hw1 : zzI Mm 28 3 = nI w) (hw : w ≤ 1) (hi : i < 600) (hm : mS Mm i c h) (hk : odM Mm w i = kd) (hs : kd = 1 ∨ kd = 2 ∨ kd = 3 ∨ kd = 4 ∨ kd = 5 ∨ kd = 6 ∨ kd = 7 ∨ kd = 9 ∨ kd = 12 ∨ kd = 13 ∨ kd = 14 ∨ kd = 15 ∨ kd = 16 ∨ kd = 18) (h1 : zzL Mm 28 35 = lN t) (h2 : zzL Mm 28 34 = lN lim) (ht : t < lim) (hl : lim ≤ 300) (hp : plM Mm w i = nI p) (hy : (if kd = 1 ∨ kd = 2 ∨ kd = 3 then F_Md_store lwSm (mst Mm i t (nI p)) 28 kd (nI (600 * w + i)) else if kd = 7 then zzcall (F_Md_handle lwSm (mst Mm i t (nI p)) 28 7 (zzI (mst Mm i t (nI p)) 28 45)) (fun _ N => some ((), zzsI N 28 45 (zzI N 28 45 + 1))) else if kd = 9 then F_Md_handle lwSm (mst Mm i t (nI p)) 28 9 (tgM Mm w i) else if kd = 18 then F_Md_call lwSm (mst Mm i t (nI p)) 28 (gvM Mm w i) else F_Md_act lwSm (mst Mm i t (nI p)) 28 kd (nI (600 * w + i))) = y) (f : Nat) : rn (f + 1) Mm = zzcall y (fun _ M => rn f M) := by
  rw [rn_s hm.2.2.2, wk_st hR hw1 hw hi hm.1 hk hs, m_stepped hR hw hi h1 h2 ht hl, hp, hy]
def bOK (S : zzS) (w lim n d c l : Nat) : Prop := ∀ h b i j Mc Mm o ll t, h ≤ l → psB S Mc Mm w d b i j → wX S Mc Mm w lim → dW S Mc Mm w o ll t → t ≤ lim → mS Mm i c h → wO S w lim True l c h j 0 t Mc Mm (fun f => rn f Mm) (FD_Wk_block S n Mc 27 (some b) (nI l) (nI c))
theorem c_block_0 {S : zzS} {M : zzM} {n b l : Nat} {c : Int32} (hb : bkP S b) (h0 : zzR M b 0 = none) (hl : l ≤ 6) : FD_Wk_block S (n + 1) M 27 (some b) (nI l) c = some (0, M) := by
  show F_Wk_block S (FD_Wk_block S n) (FD_Wk_statement S n) (FD_Wk_branch S n) (FD_Wk_loop S n) (FD_Wk_act S n) (FD_Wk_closing S n) (FD_Wk_call S n) M 27 (some b) (nI l) c = _
  simp only [F_Wk_block, poptp hb.1 hb.2.1, plet, h0, if_pos (show nI l ≤ (6 : Int32) from nI_le (b := 6) hl (by omega))]
  rfl
theorem c_branch {S : zzS} {M M1 : zzM} {n s : Nat} {l c er : Int32} {v : Int64} (hS : clS S) (hC : clR M) (hs : s < S.2.1) (hk : zzk S s = 13) (h63 : 63 ≤ s) (a1 : F_Rk_value S M 16 (zzR M s 5) = some (v, M1)) (a3 : frK M M1) (a5 : zzI M1 16 4 = er) : FD_Wk_branch S (n + 1) M 27 (some s) l c = if er = 0 then FD_Wk_block S n M1 27 (if v = 0 then zzR M s 7 else zzR M s 6) (l + 1) c else some (1, zzsI (zzsR (zzsI M1 19 9 er) 19 10 (some s)) 19 11 0) := by
  have hC1 := a3.cR hC
  have hr : ∀ j, zzR M1 s j = zzR M s j := fun j => (fcC_K a3 s (by omega)).2 j
  show F_Wk_branch S (FD_Wk_block S n) (FD_Wk_statement S n) (FD_Wk_branch S n) (FD_Wk_loop S n) (FD_Wk_act S n) (FD_Wk_closing S n) (FD_Wk_call S n) M 27 (some s) l c = _
  simp only [F_Wk_branch, plet, pcall, cR_27_1 hC, cr_16 hS, poptp hs hk, a1, cR_27_1 hC1, a5, c_fail hS hC1, hr, pcmp_eq, zc_id]
  by_cases h0 : er = 0
  · rw [if_pos h0, if_pos h0]
    by_cases hv : v = 0
    · rw [if_pos hv, if_pos hv]
    · rw [if_neg hv, if_neg hv]
  · rw [if_neg h0, if_neg h0]
theorem w_branch {S : zzS} {Mc Mm : zzM} {w o ll t lim n d i j c h l s p b1 b2 m : Nat} (hB : bOK S w lim n d c (l + 1)) (hn : 1 ≤ n) (hX : wX S Mc Mm w lim) (hD : dW S Mc Mm w o ll t) (ht : t < lim) (hm : mS Mm i c h) (hl : l < 6) (hh : h ≤ l) (hst : stP S Mc Mm w s p) (hpl : plM Mm w i = nI p) (hij : i < j) (hj : j < 600) (hod : odM Mm w i = 5) (he : exR S Mc Mm w (zzR Mc s 5) (seM Mm w i)) (h6 : zzR Mc s 6 = some b1) (h7 : zzR Mc s 7 = some b2) (hb1 : psB S Mc Mm w d b1 (i + 1) m) (hel : (bkP S b2 ∧ zzR Mc b2 0 = none ∧ tgM Mm w i = nI m ∧ j = m) ∨ (odM Mm w m = 17 ∧ tgM Mm w m = nI j ∧ tgM Mm w i = nI (m + 1) ∧ psB S Mc Mm w d b2 (m + 1) j ∧ m < j)) : wO S w lim True l c h j 0 t Mc Mm (fun f => rn f Mm) (FD_Wk_branch S (n + 1) (cst Mc t) 27 (some s) (nI l) (nI c)) := by
  have hX0 := hX
  obtain ⟨hlim, hx2, hx3, hx4, -⟩ := hX
  obtain ⟨q1, q2, q3, q4, q5, q6⟩ := hst
  obtain ⟨Mc1, Mm1, er, v, a1, a2, a3, a4, a5, a6, a7, a8, a9, a10, a11, a12, a13⟩ := st_val (l := l) (p := p) hD ht hlim hm (by omega) q1 he
  have hS := hD.1.1.1
  have hC : clR (cst Mc t) := hD.1.1.2.1
  have hR : mdR Mm := hD.1.2.1.1
  have hw := hD.1.2.2.2.1
  have hR1 : mdR (mst Mm i t (nI p)) := hR
  have hcl := c_branch (n := n) (l := nI l) (c := nI c) hS hC q2 q3 q1 a1 a3 a5
  have hac := m_act56 hR1 hw (show i < 600 by omega) (Or.inl rfl) a2 a4 a6 a12
  have hrn := fun f => rn_st (y := F_Md_act lwSm (mst Mm i t (nI p)) 28 5 (nI (600 * w + i))) hR hD.1.2.2.1 hw (show i < 600 by omega) hm hod (by simp) hD.1.2.2.2.2.2.2.2.1 hx3 ht hlim hpl (by simp) f
  by_cases h0 : er = 0
  · subst h0
    rw [if_pos rfl] at hcl hac
    rw [hcl, ← nI_succ]
    have r6 : zzR (cst Mc t) s 6 = some b1 := h6
    have r7 : zzR (cst Mc t) s 7 = some b2 := h7
    rw [r6, r7]
    by_cases hv : v = 0
    · rw [if_pos hv]
      rw [a7 rfl, if_pos hv] at hac
      have htg : tgM Mm1 w i = tgM Mm w i := a10.2.2.1.1 37 (by omega) (by omega) _
      have hnm : nmF Mm1 (zzsI Mm1 28 52 (tgM Mm1 w i)) := nmF_s _ (by omega)
      have hfw : fw l h c Mc1 Mc1 Mm1 (zzsI Mm1 28 52 (tgM Mm1 w i)) := ⟨fcC.rf _, fcH.rf _ _, hnm.C, ⟨fun a h1 h2 j _ => by simp only [plet, pcall, pck, pI_I, pI_L, pI_R, pL_I, pL_L, pL_R, pR_I, pR_L, pR_R]; rw [if_neg (by omega)], fun j _ => rfl, fun j _ => rfl, fun j _ => rfl⟩⟩
      have hf2 := a10.tr hfw
      refine wO.pre (k0 := 1) (b1 := 2) (t2 := t + 1) (G2 := fun f => rn f (zzsI Mm1 28 52 (tgM Mm1 w i))) (fun f => ?_) hf2 a11 (by omega) (by omega) ?_
      · show rn (f + 1) Mm = _
        rw [hrn, hac, pcall]
      · have hd2 := a8.neu (ncF.rf _) hnm
        rcases hel with ⟨e1, e2, e3, e4⟩ | ⟨e1, e2, e3, e4, e5⟩
        · obtain ⟨n1, rfl⟩ : ∃ n1, n = n1 + 1 := ⟨n - 1, by omega⟩
          rw [c_block_0 e1 (by rw [(a10.1 b2 e1.2.2).2]; exact e2) (by omega)]
          subst e4
          refine wO_done hd2 (by omega) ⟨?_, a9.2.1, a9.2.2.1, a9.2.2.2⟩
          rw [htg, e3]
          simp [plet, pcall, pck, pI_I, pI_L, pI_R, pL_I, pL_L, pL_R, pR_I, pR_L, pR_R]
        · obtain ⟨e, Mc2, Mm2, o1, ll1, t1, k, y1, y2, y3, y4, y5, y6, y7⟩ := hB h b2 (m + 1) j Mc1 (zzsI Mm1 28 52 (tgM Mm1 w i)) o ll (t + 1) (by omega) (e4.go hf2.1 hf2.2.2.1) (hX0.go hf2) hd2 (by omega) ⟨by rw [htg, e3]; simp [plet, pcall, pck, pI_I, pI_L, pI_R, pL_I, pL_L, pL_R, pR_I, pR_L, pR_R], a9.2.1, a9.2.2.1, a9.2.2.2⟩
          exact ⟨e, Mc2, Mm2, o1, ll1, t1, k, y1, y2, y3, y4, y5.mo (by omega) (Nat.le_refl _) (Nat.le_refl _), by omega, y7⟩
    · rw [if_neg hv]
      rw [a7 rfl, if_neg hv] at hac
      refine wO.pre (k0 := 1) (b1 := 2) (t2 := t + 1) (G2 := fun f => rn f Mm1) (fun f => ?_) a10 a11 (by omega) (by omega) ?_
      · show rn (f + 1) Mm = _
        rw [hrn, hac, pcall]
      · have hle := hb1.le
        have H := hB h b1 (i + 1) m Mc1 Mm1 o ll (t + 1) (by omega) (hb1.go a10.1 a10.2.2.1) (hX0.go a10) a8 (by omega) a9
        rw [← zc_id (FD_Wk_block S n Mc1 27 (some b1) (nI (l + 1)) (nI c))]
        refine wO.bind (b1 := 0) (b2 := 2) (l := l) (h := h) (c := c) H (by omega) (Nat.le_refl _) (Nat.le_refl _) ?_ ?_ (fun M => rfl)
        · intro Mc2 Mm2 o2 ll2 t2 _ d1 d2 d3 d4 d5 d6
          rcases hel with ⟨e1, e2, e3, e4⟩ | ⟨e1, e2, e3, e4, e5⟩
          · subst e4
            exact wO_done d1 d3 d5
          · have f2 := a10.2.2.1.tr d4.2.2.1
            refine wO_go (b0 := 1) d1 d5 hle.2 (by rw [odM, f2.1 32 (by omega) (by omega)]; exact e1) (i2 := j) (by rw [tgM, f2.1 37 (by omega) (by omega)]; exact e2) (fun Mm3 g1 g2 g3 => wO_done g1 d3 g2)
        · intro Mc2 Mm2 o2 ll2 t2 r kd v s p d1 d2 d3 d4 d5 d6 d7 d8 d9 d10 d11 d12
          exact wO_fail d1 d3 d5 d6 d7 d8 d9 d10 d11 d12
  · rw [if_neg h0] at hcl hac
    rw [hcl]
    rw [hac] at hrn
    obtain ⟨e, Mc2, Mm2, o1, ll1, t1, k, y1, y2, y3, y4, y5, y6, y7⟩ := wO_op (b0 := 0) (l := l) hD ht hlim hm (by omega) (by omega) ⟨q1, q2, q3, q4, q5, q6⟩ hrn (oO_fail (kd := er) (v := 0) (s := s) h0 a8 (fX_KA a3 a4) rfl rfl)
    refine ⟨e, Mc2, Mm2, o1, ll1, t1, k, y1, y2, y3, y4, y5, y6, ?_⟩
    rcases y7 with ⟨rfl, _⟩ | y7
    · exact absurd y1 (by simp)
    · exact Or.inr y7
