/-! closings -/
theorem c_addClosing {S : zzS} {M : zzM} {k : Nat} {v : Int32} (hS : clS S) (hC : clR M) (h5 : zzI M 19 5 = nI k) (hk : k ≤ 20) : F_Rp_addClosing S M 19 v = some ((), if k < 20 then zzsI (zzsI M 22 k v) 19 5 (nI (k + 1)) else M) := by
  simp only [F_Rp_addClosing, plet, pcall, pck, pI_I, pI_L, pI_R, pL_I, pL_L, pL_R, pR_I, pR_L, pR_R, h5]
  by_cases h : k < 20
  · simp only [if_pos h, if_neg (show ¬ (20 : Int32) ≤ nI k from nI_ge (b := 20) h (by omega)), cR_19_4 hC, cr_22 hS, pix (cn_22 hS) h (by omega), pnI (show k < 100000 by omega), if_neg (show ¬ 19 = 22 by decide), ← nI_succ]
  · simp only [if_neg h, if_pos (show (20 : Int32) ≤ nI k from nI_le (a := 20) (by omega) (by omega))]
theorem m_beginClosing {M : zzM} {k h : Nat} {v : Int32} (hR : mdR M) (hh : h < 16) (h55 : zzI M 28 55 = nI (h + 1)) (h42 : zzI M 28 42 = nI k) (hk : k ≤ 20) : F_Md_beginClosing lwSm M 28 v = some ((), if k < 20 then zzsI (zzsI (zzsI M 53 h 10) 51 k v) 28 42 (nI (k + 1)) else zzsI M 53 h 10) := by
  have hx : ∀ x : Option (Unit × zzM), zzix lwSm 53 (nI h) x = x := fun x => pix (S := lwSm) mn_53 hh (by omega) x
  simp only [F_Md_beginClosing, plet, pcall, pck, pI_I, pI_L, pI_R, pL_I, pL_L, pL_R, pR_I, pR_L, pR_R, mR_56 hR, mr_53, h55, nI_pred, hx, pnI (show h < 100000 by omega), if_neg (show ¬ 28 = 53 by decide), h42]
  by_cases h20 : k < 20
  · have hne : ¬ nI k = 20 := fun e => by
      have e2 : nI k = nI 20 := e
      rw [peq (by omega) (by omega)] at e2
      omega
    simp only [if_pos h20, if_neg hne, mR_43 hR, mr_51, pix (S := lwSm) mn_51 h20 (by omega), pnI (show k < 100000 by omega), if_neg (show ¬ 28 = 51 by decide), ← nI_succ]
  · have he : nI k = 20 := by rw [show k = 20 by omega]; rfl
    simp only [if_neg h20, if_pos he]
theorem c_closing {S : zzS} {M : zzM} {n s : Nat} {l c : Int32} (hS : clS S) (hs : s < S.2.1) (hk : zzk S s = 13) : FD_Wk_closing S (n + 1) M 27 (some s) l c = zzcall (FD_Wk_block S n M 27 (zzR M s 6) (l + 1) c) (fun r5 M => if r5 = 2 then some (2, M) else (zzref S 16 (zzR M 27 2) fun b6 => zzcall (F_Rp_addClosing S M b6 (zzI M s 1)) fun _ M => zzcall (FD_Wk_block S n M 27 (zzR M s 7) (l + 1) c) fun r12 M => if r12 = 0 then some (r5, M) else some (r12, M))) := by
  show F_Wk_closing S (FD_Wk_block S n) (FD_Wk_statement S n) (FD_Wk_branch S n) (FD_Wk_loop S n) (FD_Wk_act S n) (FD_Wk_closing S n) (FD_Wk_call S n) M 27 (some s) l c = _
  simp only [F_Wk_closing, plet, poptp hs hk]
/-- the closing part, with an error that waits or none -/
theorem w_close2 {S : zzS} {Mc Mm : zzM} {w o ll t lim n d c h l s p b2 m m2 j s0 p0 : Nat} {r5 pk pv : Int32} {z : Prop} (hB : bOK S w lim n d c (l + 1)) (hX : wX S Mc Mm w lim) (hD : dW S Mc Mm w o ll t) (ht : t ≤ lim) (hm : mS Mm m c (h + 1)) (hl : l < 6) (hh : h ≤ l) (hst : stP S Mc Mm w s p) (hm600 : m < 600) (e1 : odM Mm w m = 10) (e2 : plM Mm w m = nI p) (h7 : zzR Mc s 7 = some b2) (hb2 : psB S Mc Mm w d b2 (m + 1) m2) (e3 : odM Mm w m2 = 11) (e4 : j = m2 + 1)
    (h56 : zzI Mm 56 h = pk) (hpk : (r5 = 0 ∧ pk = 0 ∧ z) ∨ (r5 = 1 ∧ pk ≠ 0 ∧ zzI Mm 57 h = nI p0 ∧ zzI Mm 58 h = pv ∧ zzI Mc 19 9 = pk ∧ zzR Mc 19 10 = some s0 ∧ zzI Mc 19 11 = pv ∧ stP S Mc Mm w s0 p0)) : wO S w lim z l c h j 2 t Mc Mm (fun f => rn f Mm) (zzref S 16 (zzR Mc 27 2) fun b6 => zzcall (F_Rp_addClosing S Mc b6 (zzI Mc s 1)) fun _ M => zzcall (FD_Wk_block S n M 27 (zzR M s 7) (nI l + 1) (nI c)) fun r12 M => if r12 = 0 then some (r5, M) else some (r12, M)) := by
  have hS := hD.1.1.1
  have hC : clR Mc := hD.1.1.2.1
  have hR : mdR Mm := hD.1.2.1.1
  have hw := hD.1.2.2.2.1
  obtain ⟨q1, q2, q3, q4, q5, q6⟩ := hst
  obtain ⟨k, hk1, hk2, hk3⟩ := hD.1.2.2.2.2.1.2.2.2.2.1
  have hnm : nmF Mm (zzsI (zzsI Mm 28 52 (nI (m + 1))) 53 h 10) := (nmF_s _ (by omega)).tr (nmF_a _ (by omega))
  have hbc := m_beginClosing (M := zzsI Mm 28 52 (nI (m + 1))) (v := nI p) hR (show h < 16 by omega) hm.2.2.1 hk3 hk1
  have hD1 := hD.neu (ncF.rf _) hnm
  have hst2 : ∃ Mc1 Mm1, F_Rp_addClosing S Mc 19 (nI p) = some ((), Mc1) ∧ F_Md_beginClosing lwSm (zzsI Mm 28 52 (nI (m + 1))) 28 (nI p) = some ((), Mm1) ∧ dW S Mc1 Mm1 w o ll t ∧ fX Mc Mc1 (zzsI (zzsI Mm 28 52 (nI (m + 1))) 53 h 10) Mm1 ∧ errS Mc Mc1 := by
    by_cases h20 : k < 20
    · rw [if_pos h20] at hbc
      have := c_addClosing (v := nI p) hS hC hk2 hk1
      rw [if_pos h20] at this
      exact ⟨_, _, this, hbc, hD1.cls h20 (nI p), (fX_I (by omega) (by omega)).tr (fX_I (by omega) (by omega)), ⟨rfl, rfl, rfl⟩⟩
    · rw [if_neg h20] at hbc
      have := c_addClosing (v := nI p) hS hC hk2 hk1
      rw [if_neg h20] at this
      exact ⟨_, _, this, hbc, hD1, fX.rf _ _, errS.rf _⟩
  obtain ⟨Mc1, Mm1, x1, x2, x3, x4, x5⟩ := hst2
  have hf0 : fmC Mm (zzsI (zzsI Mm 28 52 (nI (m + 1))) 53 h 10) := hnm.C
  have hfH0 : fmH h c Mm (zzsI (zzsI Mm 28 52 (nI (m + 1))) 53 h 10) := ⟨fun a h1 h2 j hj => by
    simp only [plet, pcall, pck, pI_I, pI_L, pI_R, pL_I, pL_L, pL_R, pR_I, pR_L, pR_R]
    by_cases ha : a = 53
    · rw [if_pos ha, if_neg (by omega), if_neg (by omega)]
    · rw [if_neg ha, if_neg (by omega)], fun j _ => rfl, fun j _ => rfl, fun j _ => rfl⟩
  have hfw : fw l h c Mc Mc1 Mm Mm1 := ⟨x4.1, x4.2.1.mo (by omega), hf0.tr x4.2.2.1, hfH0.tr (x4.w (l := l) (h := h) (c := c) (by omega)).2.2.2⟩
  have hms : mS Mm1 (m + 1) c (h + 1) := mS.n (M := zzsI (zzsI Mm 28 52 (nI (m + 1))) 53 h 10) ⟨rfl, hm.2.1, hm.2.2.1, hm.2.2.2⟩ x4.2.2.2.2.2
  have hR7 : zzR Mc1 s 7 = some b2 := by rw [(x4.1 s (by omega)).2]; exact h7
  have hkind : zzI Mm1 53 h = 10 := by rw [x4.2.2.2.1 53 (by omega) (by omega) (by omega)]; simp [plet, pcall, pck, pI_I, pI_L, pI_R, pL_I, pL_L, pL_R, pR_I, pR_L, pR_R]
  have hp56 : zzI Mm1 56 h = pk := by rw [x4.2.2.2.1 56 (by omega) (by omega) (by omega)]; exact h56
  have hp57 : zzI Mm1 57 h = zzI Mm 57 h := by rw [x4.2.2.2.1 57 (by omega) (by omega) (by omega)]; rfl
  have hp58 : zzI Mm1 58 h = zzI Mm 58 h := by rw [x4.2.2.2.1 58 (by omega) (by omega) (by omega)]; rfl
  have hcl : (zzref S 16 (zzR Mc 27 2) fun b6 => zzcall (F_Rp_addClosing S Mc b6 (zzI Mc s 1)) fun _ M => zzcall (FD_Wk_block S n M 27 (zzR M s 7) (nI l + 1) (nI c)) fun r12 M => if r12 = 0 then some (r5, M) else some (r12, M)) = zzcall (FD_Wk_block S n Mc1 27 (some b2) (nI (l + 1)) (nI c)) fun r12 M => if r12 = 0 then some (r5, M) else some (r12, M) := by
    rw [cR_27_2 hC, cr_19 hS, q5, x1, pcall, hR7, ← nI_succ]
  rw [hcl]
  refine wO.pre (k0 := 1) (b1 := 1) (t2 := t) (G2 := fun f => rn f Mm1) (fun f => ?_) hfw x5 (Nat.le_refl _) (by omega) ?_
  · show rn (f + 1) Mm = _
    rw [rn_s hm.2.2.2, wk_clo hR hD.1.2.2.1 hw hm600 hm.1 e1, e2, x2, pcall, pcall]
  · have hle := hb2.le
    have H := hB (h + 1) b2 (m + 1) m2 Mc1 Mm1 o ll t (by omega) (hb2.go hfw.1 hfw.2.2.1) (hX.go hfw) x3 ht hms
    refine wO.bind (b1 := 0) (b2 := 1) (l := l) (h := h) (c := c) H (by omega) (by omega) (Nat.le_refl _) ?_ ?_ (fun M => rfl)
    · intro Mc2 Mm2 o2 ll2 t2 _ d1 d2 d3 d4 d5 d6
      have hR2 := d1.1.2.1.1
      have f2 := hfw.2.2.1.tr d4.2.2.1
      have g56 : zzI Mm2 56 h = pk := (d4.2.2.2.1 56 (by omega) (by omega) h (by omega)).trans hp56
      have g57 : zzI Mm2 57 h = zzI Mm 57 h := (d4.2.2.2.1 57 (by omega) (by omega) h (by omega)).trans hp57
      have g58 : zzI Mm2 58 h = zzI Mm 58 h := (d4.2.2.2.1 58 (by omega) (by omega) h (by omega)).trans hp58
      have hnm2 : nmF Mm2 (zzsI (zzsI Mm2 28 52 (nI (m2 + 1))) 28 55 (nI h)) := (nmF_s _ (by omega)).tr (nmF_s _ (by omega))
      have hfe : fw l h c Mc2 Mc2 Mm2 (zzsI (zzsI Mm2 28 52 (nI (m2 + 1))) 28 55 (nI h)) := ⟨fcC.rf _, fcH.rf _ _, hnm2.C, ⟨fun b h1 h2 j _ => by simp only [plet, pcall, pck, pI_I, pI_L, pI_R, pL_I, pL_L, pL_R, pR_I, pR_L, pR_R]; rw [if_neg (by omega), if_neg (by omega)], fun j _ => rfl, fun j _ => rfl, fun j _ => rfl⟩⟩
      have hrn2 : ∀ f, rn (f + 1) Mm2 = zzcall (F_Md_closeEnd lwSm (zzsI Mm2 28 52 (nI (m2 + 1))) 28) (fun _ M => rn f M) := fun f => by
        rw [rn_s d5.2.2.2, wk_cle hR2 d1.1.2.2.1 hw hle.2 d5.1 (by rw [odM, f2.1 32 (by omega) (by omega)]; exact e3), zc_as]
      have hxx : ∀ a, zzn lwSm a = 16 → ∀ x : Option (Unit × zzM), zzix lwSm a (nI h) x = x := fun a ha x => pix (S := lwSm) ha (show h < 16 by omega) (by omega) x
      have hce : F_Md_closeEnd lwSm (zzsI Mm2 28 52 (nI (m2 + 1))) 28 = if pk = 0 then some ((), zzsI (zzsI Mm2 28 52 (nI (m2 + 1))) 28 55 (nI h)) else zzcall (F_Md_raise lwSm (zzsI (zzsI Mm2 28 52 (nI (m2 + 1))) 28 55 (nI h)) 28 pk (zzI Mm 57 h) (zzI Mm 58 h)) (fun _ M => some ((), M)) := by
        have z2 : zzI (zzsI Mm2 28 52 (nI (m2 + 1))) 28 55 = nI (h + 1) := d5.2.2.1
        have hR3 : mdR (zzsI (zzsI Mm2 28 52 (nI (m2 + 1))) 28 55 (nI h)) := hR2
        have z3 : zzI (zzsI (zzsI Mm2 28 52 (nI (m2 + 1))) 28 55 (nI h)) 28 55 = nI h := rfl
        have z4 : zzI (zzsI (zzsI Mm2 28 52 (nI (m2 + 1))) 28 55 (nI h)) 56 h = pk := g56
        have z5 : zzI (zzsI (zzsI Mm2 28 52 (nI (m2 + 1))) 28 55 (nI h)) 57 h = zzI Mm 57 h := g57
        have z6 : zzI (zzsI (zzsI Mm2 28 52 (nI (m2 + 1))) 28 55 (nI h)) 58 h = zzI Mm 58 h := g58
        simp only [F_Md_closeEnd, plet, z2, nI_pred, z3, mR_59 hR3, mr_56, hxx 56 mn_56, pnI (show h < 100000 by omega), z4, mR_60 hR3, mr_57, hxx 57 mn_57, z5, mR_61 hR3, mr_58, hxx 58 mn_58, z6]
      rw [if_pos rfl]
      rcases hpk with ⟨y1, y2, y3⟩ | ⟨y1, y2, y3, y4, y5, y6, y7, y8⟩
      · subst y1
        rw [if_pos y2] at hce
        refine ⟨0, Mc2, _, o2, ll2, t2, 1, rfl, d1.neu (ncF.rf _) hnm2, Nat.le_refl _, d3, hfe, by omega, Or.inl ⟨rfl, y3, fun f => ?_, ⟨?_, d5.2.1, rfl, d5.2.2.2⟩, errS.rf _⟩⟩
        · show rn (f + 1) Mm2 = _
          rw [hrn2, hce, pcall]
        · rw [e4]; rfl
      · subst y1
        rw [if_neg y2, y3, y4] at hce
        have ee := x5.tr d6
        refine ⟨1, Mc2, _, o2, ll2, t2, 1, rfl, d1.neu (ncF.rf _) hnm2, Nat.le_refl _, d3, hfe, by omega, Or.inr (Or.inl ⟨rfl, rfl, d5.2.2.2, 2000, pk, pv, s0, p0, fun f => ?_, by omega, y2, ee.1.trans y5, ee.2.1.trans y6, ee.2.2.trans y7, y8.go (hfw.1.tr d4.1) (f2.tr hfe.2.2.1)⟩)⟩
        show rn (f + 1) Mm2 = _
        rw [hrn2, hce, zc_as]
        rfl
    · intro Mc2 Mm2 o2 ll2 t2 r kd v s2 p2 d1 d2 d3 d4 d5 d6 d7 d8 d9 d10 d11 d12
      have hR2 := d1.1.2.1.1
      rw [if_neg (by decide)]
      have k53 : zzI Mm2 53 h = 10 := (d4.2.2.2.1 53 (by omega) (by omega) h (by omega)).trans hkind
      obtain ⟨r2, rfl⟩ : ∃ r2, r = r2 + 1 := ⟨r - 1, by omega⟩
      have hnm3 : nmF Mm2 (mr1 Mm2 h) := (nmF_s _ (by omega)).tr (nmF_s _ (by omega))
      have hfe : fw l h c Mc2 Mc2 Mm2 (mr1 Mm2 h) := ⟨fcC.rf _, fcH.rf _ _, hnm3.C, ⟨fun b h1 h2 j _ => by simp only [mr1, plet, pcall, pck, pI_I, pI_L, pI_R, pL_I, pL_L, pL_R, pR_I, pR_L, pR_R]; rw [if_neg (by omega), if_neg (by omega)], fun j _ => rfl, fun j _ => rfl, fun j _ => rfl⟩⟩
      refine ⟨1, Mc2, _, o2, ll2, t2, 0, rfl, d1.neu (ncF.rf _) hnm3, Nat.le_refl _, d3, hfe, by omega, Or.inr (Or.inl ⟨rfl, rfl, d6, r2, kd, v, s2, p2, fun f => ?_, by omega, d8, d9, d10, d11, d12.go hfe.1 hfe.2.2.1⟩)⟩
      show rs (r2 + 1) Mm2 kd (nI p2) v f = _
      rw [rs, m_rai_10 hR2 (by omega) d5 k53]
theorem w_closing {S : zzS} {Mc Mm : zzM} {w o ll t lim n d i j c h l s p b1 b2 m m2 : Nat} (hB : bOK S w lim n d c (l + 1)) (hX : wX S Mc Mm w lim) (hD : dW S Mc Mm w o ll t) (ht : t < lim) (hm : mS Mm i c h) (hl : l < 6) (hh : h ≤ l) (hst : stP S Mc Mm w s p) (hpl : plM Mm w i = nI p) (hij : i < j) (hj : j < 600) (hod : odM Mm w i = 9) (h6 : zzR Mc s 6 = some b1) (h7 : zzR Mc s 7 = some b2) (hb1 : psB S Mc Mm w d b1 (i + 1) m) (e0 : tgM Mm w i = nI m) (e1 : odM Mm w m = 10) (e2 : plM Mm w m = nI p) (hb2 : psB S Mc Mm w d b2 (m + 1) m2) (e3 : odM Mm w m2 = 11) (e4 : j = m2 + 1) : wO S w lim True l c h j 0 t Mc Mm (fun f => rn f Mm) (FD_Wk_closing S (n + 1) (cst Mc t) 27 (some s) (nI l) (nI c)) := by
  have hX0 := hX
  obtain ⟨hlim, hx2, hx3, hx4, -⟩ := hX
  have hst0 := hst
  obtain ⟨q1, q2, q3, q4, q5, q6⟩ := hst
  obtain ⟨g1, g2, g3, g4, g5⟩ := st_facts (l := l) (p := p) hD (by omega) hm
  have hS := hD.1.1.1
  have hR : mdR Mm := hD.1.2.1.1
  have hw := hD.1.2.2.2.1
  have hR1 : mdR (mst Mm i t (nI p)) := hR
  have r6 : zzR (cst Mc t) s 6 = some b1 := h6
  rw [c_closing hS q2 q3, r6]
  have hhd : F_Md_handle lwSm (mst Mm i t (nI p)) 28 9 (tgM Mm w i) = some ((), zzsI (mh5 (mst Mm i t (nI p)) h 9 (nI m)) 28 55 (nI (h + 1))) := by
    rw [e0, m_handle9 hR1 (by omega) g2.2.2.1]
  have hrn := fun f => rn_st (y := some ((), zzsI (mh5 (mst Mm i t (nI p)) h 9 (nI m)) 28 55 (nI (h + 1)))) hR hD.1.2.2.1 hw (show i < 600 by omega) hm hod (by simp) hD.1.2.2.2.2.2.2.2.1 hx3 ht hlim hpl (by simp only [show ¬ ((9 : Int32) = 1 ∨ (9 : Int32) = 2 ∨ (9 : Int32) = 3) by decide, show ¬ (9 : Int32) = 7 by decide, if_false, if_true]; exact hhd) f
  obtain ⟨v1, v2, v3, v4, v5⟩ := mh5_v (M := mst Mm i t (nI p)) (h := h) (kd := 9) (g := nI m)
  have hnm : nmF (mst Mm i t (nI p)) (zzsI (mh5 (mst Mm i t (nI p)) h 9 (nI m)) 28 55 (nI (h + 1))) := mh5_n.tr (nmF_s _ (by omega))
  have hd2 := g1.neu (ncF.rf _) hnm
  have hfw : fw l h c Mc (cst Mc t) Mm (zzsI (mh5 (mst Mm i t (nI p)) h 9 (nI m)) 28 55 (nI (h + 1))) := by
    refine g3.tr ⟨fcC.rf _, fcH.rf _ _, hnm.C, (mh5_f (c := c)).tr ⟨fun b h1 h2 j _ => by simp only [plet, pcall, pck, pI_I, pI_L, pI_R, pL_I, pL_L, pL_R, pR_I, pR_L, pR_R]; rw [if_neg (by omega)], fun j _ => rfl, fun j _ => rfl, fun j _ => rfl⟩⟩
  have hms : mS (zzsI (mh5 (mst Mm i t (nI p)) h 9 (nI m)) 28 55 (nI (h + 1))) (i + 1) c (h + 1) := ⟨g2.1, g2.2.1, rfl, g2.2.2.2⟩
  refine wO.pre (k0 := 1) (b1 := 2) (t2 := t + 1) (G2 := fun f => rn f (zzsI (mh5 (mst Mm i t (nI p)) h 9 (nI m)) 28 55 (nI (h + 1)))) (fun f => ?_) hfw g4 (by omega) (by omega) ?_
  · show rn (f + 1) Mm = _
    rw [hrn, pcall]
  · have hle := hb1.le
    rw [← nI_succ]
    have H := hB (h + 1) b1 (i + 1) m _ _ o ll (t + 1) (by omega) (hb1.go hfw.1 hfw.2.2.1) (hX0.go hfw) hd2 (by omega) hms
    refine wO.bind (b1 := 0) (b2 := 2) (l := l) (h := h) (c := c) H (by omega) (by omega) (Nat.le_refl _) ?_ ?_ (fun M => by rw [if_pos rfl])
    · intro Mc2 Mm2 o2 ll2 t2 _ d1 d2 d3 d4 d5 d6
      have ff := hfw.tr (d4.mo (l := l) (h := h) (c := c) (by omega) (by omega) (Nat.le_refl _))
      rw [if_neg (by decide), nI_succ]
      exact w_close2 (z := True) (p0 := 0) (s0 := 0) (pv := 0) hB (hX0.go ff) d1 d3 d5 hl hh (hst0.go ff.1 ff.2.2.1) hle.2 (by rw [odM, ff.2.2.1.1 32 (by omega) (by omega)]; exact e1) (by rw [plM, ff.2.2.1.1 33 (by omega) (by omega)]; exact e2) (by rw [(ff.1 s (by omega)).2]; exact h7) (hb2.go ff.1 ff.2.2.1) (by rw [odM, ff.2.2.1.1 32 (by omega) (by omega)]; exact e3) e4 ((d4.2.2.2.1 56 (by omega) (by omega) h (by omega)).trans v4) (Or.inl ⟨rfl, rfl, trivial⟩)
    · intro Mc2 Mm2 o2 ll2 t2 r kd v s2 p2 d1 d2 d3 d4 d5 d6 d7 d8 d9 d10 d11 d12
      have hR2 := d1.1.2.1.1
      have ff := hfw.tr (d4.mo (l := l) (h := h) (c := c) (by omega) (by omega) (Nat.le_refl _))
      rw [if_neg (by decide), nI_succ]
      have k53 : zzI Mm2 53 h = 9 := (d4.2.2.2.1 53 (by omega) (by omega) h (by omega)).trans v1
      have k54 : zzI Mm2 54 h = nI c := ((d4.2.2.2.1 54 (by omega) (by omega) h (by omega)).trans v2).trans g2.2.1
      have k55 : zzI Mm2 55 h = nI m := (d4.2.2.2.1 55 (by omega) (by omega) h (by omega)).trans v3
      obtain ⟨r2, rfl⟩ : ∃ r2, r = r2 + 1 := ⟨r - 1, by omega⟩
      have hnm3 : nmF Mm2 (mtr Mm2 h (nI p2) v kd) := ((((((((nmF_s _ (by omega)).tr (nmF_s _ (by omega))).tr (nmF_a _ (by omega))).tr (nmF_a _ (by omega))).tr (nmF_a _ (by omega))).tr (nmF_a _ (by omega))).tr (nmF_s _ (by omega))).tr (nmF_s _ (by omega)))
      have hfe : fw l h c Mc2 Mc2 Mm2 (mtr Mm2 h (nI p2) v kd) := by
        refine ⟨fcC.rf _, fcH.rf _ _, hnm3.C, ⟨fun b h1 h2 j hj => ?_, fun j _ => rfl, fun j _ => rfl, fun j _ => rfl⟩⟩
        simp only [mtr, mr1, plet, pcall, pck, pI_I, pI_L, pI_R, pL_I, pL_L, pL_R, pR_I, pR_L, pR_R]
        have : j ≠ h := by omega
        simp [this, show b ≠ 28 by omega]
      have fg := ff.tr hfe
      have u1 : zzI (mtr Mm2 h (nI p2) v kd) 56 h = kd := by simp [mtr, plet, pcall, pck, pI_I, pI_L, pI_R, pL_I, pL_L, pL_R, pR_I, pR_L, pR_R]
      have u2 : zzI (mtr Mm2 h (nI p2) v kd) 57 h = nI p2 := by simp [mtr, plet, pcall, pck, pI_I, pI_L, pI_R, pL_I, pL_L, pL_R, pR_I, pR_L, pR_R]
      have u3 : zzI (mtr Mm2 h (nI p2) v kd) 58 h = v := by simp [mtr, plet, pcall, pck, pI_I, pI_L, pI_R, pL_I, pL_L, pL_R, pR_I, pR_L, pR_R]
      have u4 : mS (mtr Mm2 h (nI p2) v kd) m c (h + 1) := ⟨k55, k54, rfl, d6⟩
      have W := w_close2 (z := False) (r5 := 1) (p0 := p2) (s0 := s2) (pv := v) hB (hX0.go fg) (d1.neu (ncF.rf _) hnm3) d3 u4 hl hh (hst0.go fg.1 fg.2.2.1) hle.2 (by rw [odM, fg.2.2.1.1 32 (by omega) (by omega)]; exact e1) (by rw [plM, fg.2.2.1.1 33 (by omega) (by omega)]; exact e2) (by rw [(fg.1 s (by omega)).2]; exact h7) (hb2.go fg.1 fg.2.2.1) (by rw [odM, fg.2.2.1.1 32 (by omega) (by omega)]; exact e3) e4 u1 (Or.inr ⟨rfl, d8, u2, u3, d9, d10, d11, d12.go hfe.1 hfe.2.2.1⟩)
      refine wO.pre (k0 := 0) (b1 := 2) (t2 := t2) (fun f => ?_) hfe (errS.rf _) (Nat.le_refl _) (by omega) W
      show rs (r2 + 1) Mm2 kd (nI p2) v f = _
      rw [rs, m_rai_9 hR2 (by omega) d5 k53, pcall]
/-! calls -/
theorem c_call {S : zzS} {M : zzM} {n s sc fu f : Nat} {l c : Int32} (hS : clS S) (hC : clR M) (hs : s < S.2.1) (hk : zzk S s = 13) (h3 : zzI M s 3 = nI f) (hf : f < 26) (hsc : zzR M 27 3 = some sc) (hsc1 : sc < S.2.1) (hsc2 : zzk S sc = 11) (hfu : zzR M sc 1 = some fu) (hfu1 : fu < S.2.1) (hfu2 : zzk S fu = 4) (hfu3 : zzn S fu = 26) : FD_Wk_call S (n + 1) M 27 (some s) l c = zzopt S 13 (zzR M fu f) (some (1, zzsI (zzsR (zzsI M 19 9 6) 19 10 (some s)) 19 11 0)) (fun b8 => if c < (2 : Int32) then FD_Wk_block S n M 27 (zzR M b8 6) (l + 1) (c + 1) else some (1, zzsI (zzsR (zzsI M 19 9 5) 19 10 (some s)) 19 11 0)) := by
  have hfn : F_Sc_function S M sc (nI f) = some (zzR M fu f, M) := by
    simp only [F_Sc_function, if_neg (nI_pos (n := f) (by omega)), hfu, prefp hfu1 hfu2, plet, hfu3, if_pos (show nI f < Int32.ofNat 26 from nI_lt hf (by omega)), pix hfu3 hf (by omega), pnI (show f < 100000 by omega)]
  show F_Wk_call S (FD_Wk_block S n) (FD_Wk_statement S n) (FD_Wk_branch S n) (FD_Wk_loop S n) (FD_Wk_act S n) (FD_Wk_closing S n) (FD_Wk_call S n) M 27 (some s) l c = _
  simp only [F_Wk_call, plet, hsc, poptp hs hk, h3, poptp hsc1 hsc2, hfn, pcall, c_fail hS hC, zc_id]
theorem e26 {w i : Nat} : (26 : Int32) * nI w + nI i = nI (26 * w + i) := by show nI 26 * nI w + nI i = _; rw [nI_mul, nI_add]
theorem w_call {S : zzS} {Mc Mm : zzM} {w o ll t lim n i c h l s p v : Nat} (hF : c < 2 → bOK S w lim n 2 (c + 1) (l + 1)) (hX : wX S Mc Mm w lim) (hD : dW S Mc Mm w o ll t) (ht : t < lim) (hm : mS Mm i c h) (hc : c ≤ 2) (hl : l ≤ 6) (hh : h ≤ l) (hst : stP S Mc Mm w s p) (hpl : plM Mm w i = nI p) (hi : i + 1 < 600) (hod : odM Mm w i = 18) (hv : v < 26) (hv1 : zzI Mc s 3 = nI v) (hv2 : gvM Mm w i = nI v) : wO S w lim True l c h (i + 1) 0 t Mc Mm (fun f => rn f Mm) (FD_Wk_call S (n + 1) (cst Mc t) 27 (some s) (nI l) (nI c)) := by
  have hX0 := hX
  obtain ⟨hlim, hx2, hx3, hx4, sc, fu, x5, x6, x7, x8, x9, x10⟩ := hX
  have hst0 := hst
  obtain ⟨q1, q2, q3, q4, q5, q6⟩ := hst
  obtain ⟨g1, g2, g3, g4, g5⟩ := st_facts (l := l) (p := p) hD (by omega) hm
  have hS := hD.1.1.1
  have hC : clR (cst Mc t) := hD.1.1.2.1
  have hR : mdR Mm := hD.1.2.1.1
  have hw := hD.1.2.2.2.1
  have hR1 : mdR (mst Mm i t (nI p)) := hR
  obtain ⟨y1, y2, y3, y4, y5⟩ := x10
  have hcl := c_call (n := n) (l := nI l) (c := nI c) hS hC q2 q3 (by rw [cst, pI_I, if_neg (by omega)]; exact hv1) hv x5 x6 x7 x9 y1 y2 y3
  have rfu : zzR (cst Mc t) fu v = zzR Mc fu v := rfl
  rw [rfu] at hcl
  have hcm : ∀ g, zzI Mm 38 (26 * w + v) = g → F_Md_call lwSm (mst Mm i t (nI p)) 28 (gvM Mm w i) = if g = -1 then zzcall (F_Md_raise lwSm (mst Mm i t (nI p)) 28 6 (nI p) 0) (fun _ M => some ((), M)) else if nI c = 2 then zzcall (F_Md_raise lwSm (mst Mm i t (nI p)) 28 5 (nI p) 0) (fun _ M => some ((), M)) else zzix lwSm 52 (nI c) (some ((), zzsI (zzsI (zzsI (mst Mm i t (nI p)) 52 (nI c).toNatClampNeg (nI (i + 1))) 28 53 (nI (c + 1))) 28 52 g)) := fun g hg => by
    have z1 : zzI (mst Mm i t (nI p)) 28 3 = nI w := hD.1.2.2.1
    have z2 : zzI (mst Mm i t (nI p)) 38 (26 * w + v) = g := hg
    have z3 : zzI (mst Mm i t (nI p)) 28 53 = nI c := hm.2.1
    have z4 : zzI (mst Mm i t (nI p)) 28 52 = nI (i + 1) := rfl
    have z5 : ∀ x y, zzI (zzsI (mst Mm i t (nI p)) 52 x y) 28 53 = nI c := fun x y => hm.2.1
    simp only [F_Md_call, plet, mR_12 hR1, mr_38, z1, hv2, e26, pix (S := lwSm) mn_38 (show 26 * w + v < 52 by omega) (by omega), pnI (show 26 * w + v < 100000 by omega), z2, z3, z4, g5, mR_54 hR1, mr_52, z5, ← nI_succ]
  have hrn := fun f => rn_st (y := F_Md_call lwSm (mst Mm i t (nI p)) 28 (gvM Mm w i)) hR hD.1.2.2.1 hw (show i < 600 by omega) hm hod (by simp) hD.1.2.2.2.2.2.2.2.1 hx3 ht hlim hpl (by simp only [show ¬ ((18 : Int32) = 1 ∨ (18 : Int32) = 2 ∨ (18 : Int32) = 3) by decide, show ¬ (18 : Int32) = 7 by decide, show ¬ (18 : Int32) = 9 by decide, if_false, if_true]) f
  rcases y5 v hv with ⟨z1, z2⟩ | ⟨sf, b, i2, j2, z1, z2, z3, z4, z5, z6, z7, z8⟩
  · rw [z1, poptn] at hcl
    rw [hcl]
    rw [hcm _ z2, if_pos rfl] at hrn
    exact wO_op hD ht hlim hm hl (by omega) hst0 hrn (oO_fail (kd := 6) (v := 0) (by decide) g1 (fX.rf _ _) rfl rfl)
  · rw [z1, poptp z3 z4] at hcl
    have hn1 : ¬ nI i2 = -1 := fun h => by
      have := z7.le
      have h1 := nI_pos (n := i2) (by omega)
      rw [h] at h1
      exact h1 (by decide)
    by_cases hc2 : c < 2
    · rw [if_pos (show nI c < (2 : Int32) from nI_lt (b := 2) hc2 (by omega))] at hcl
      have hne : ¬ nI c = 2 := fun e => by
        have e2 : nI c = nI 2 := e
        rw [peq (by omega) (by omega)] at e2
        omega
      have r6 : zzR (cst Mc t) sf 6 = some b := z5
      rw [r6, ← nI_succ, ← nI_succ] at hcl
      rw [hcl]
      rw [hcm _ z6, if_neg hn1, if_neg hne, pix (S := lwSm) mn_52 hc2 (by omega), pnI (show c < 100000 by omega)] at hrn
      have hnm : nmF (mst Mm i t (nI p)) (zzsI (zzsI (zzsI (mst Mm i t (nI p)) 52 c (nI (i + 1))) 28 53 (nI (c + 1))) 28 52 (nI i2)) := ((nmF_a _ (by omega)).tr (nmF_s _ (by omega))).tr (nmF_s _ (by omega))
      have hfw : fw l h c Mc (cst Mc t) Mm (zzsI (zzsI (zzsI (mst Mm i t (nI p)) 52 c (nI (i + 1))) 28 53 (nI (c + 1))) 28 52 (nI i2)) := by
        refine g3.tr ⟨fcC.rf _, fcH.rf _ _, hnm.C, ⟨fun a h1 h2 j _ => ?_, fun j _ => rfl, fun j _ => rfl, fun j hj => ?_⟩⟩
        · simp only [plet, pcall, pck, pI_I, pI_L, pI_R, pL_I, pL_L, pL_R, pR_I, pR_L, pR_R]; rw [if_neg (by omega), if_neg (by omega), if_neg (by omega)]
        · have : j ≠ c := by omega
          simp [plet, pcall, pck, pI_I, pI_L, pI_R, pL_I, pL_L, pL_R, pR_I, pR_L, pR_R, this]
      have hms : mS (zzsI (zzsI (zzsI (mst Mm i t (nI p)) 52 c (nI (i + 1))) 28 53 (nI (c + 1))) 28 52 (nI i2)) i2 (c + 1) h := ⟨rfl, rfl, g2.2.2.1, g2.2.2.2⟩
      have hle := z7.le
      refine wO.pre (k0 := 1) (b1 := 2) (t2 := t + 1) (G2 := fun f => rn f (zzsI (zzsI (zzsI (mst Mm i t (nI p)) 52 c (nI (i + 1))) 28 53 (nI (c + 1))) 28 52 (nI i2))) (fun f => ?_) hfw g4 (by omega) (by omega) ?_
      · show rn (f + 1) Mm = _
        rw [hrn, pcall]
      · have H := hF hc2 h b i2 j2 _ _ o ll (t + 1) (by omega) (z7.go hfw.1 hfw.2.2.1) (hX0.go hfw) (g1.neu (ncF.rf _) hnm) (by omega) hms
        rw [← zc_id (FD_Wk_block S n (cst Mc t) 27 (some b) (nI (l + 1)) (nI (c + 1)))]
        refine wO.bind (b1 := 0) (b2 := 2) (l := l) (h := h) (c := c) H (by omega) (Nat.le_refl _) (by omega) ?_ ?_ (fun M => rfl)
        · intro Mc2 Mm2 o2 ll2 t2 _ d1 d2 d3 d4 d5 d6
          have f2 := hfw.2.2.1.tr d4.2.2.1
          have hbk : zzI Mm2 52 c = nI (i + 1) := by
            rw [d4.2.2.2.2.2.2 c (by omega)]
            simp [plet, pcall, pck, pI_I, pI_L, pI_R, pL_I, pL_L, pL_R, pR_I, pR_L, pR_R]
          have hnm2 : nmF Mm2 (zzsI (zzsI (zzsI Mm2 28 52 (nI (j2 + 1))) 28 53 (nI c)) 28 52 (nI (i + 1))) := ((nmF_s _ (by omega)).tr (nmF_s _ (by omega))).tr (nmF_s _ (by omega))
          refine ⟨0, Mc2, _, o2, ll2, t2, 1, rfl, d1.neu (ncF.rf _) hnm2, Nat.le_refl _, d3, ⟨fcC.rf _, fcH.rf _ _, hnm2.C, ⟨fun b h1 h2 j _ => by simp only [plet, pcall, pck, pI_I, pI_L, pI_R, pL_I, pL_L, pL_R, pR_I, pR_L, pR_R]; rw [if_neg (by omega), if_neg (by omega), if_neg (by omega)], fun j _ => rfl, fun j _ => rfl, fun j _ => rfl⟩⟩, by omega, Or.inl ⟨rfl, trivial, fun f => ?_, ⟨rfl, rfl, d5.2.2.1, d5.2.2.2⟩, errS.rf _⟩⟩
          show rn (f + 1) Mm2 = _
          rw [rn_s d5.2.2.2, wk_ret d1.1.2.1.1 d1.1.2.2.1 hw hle.2 d5.1 (by rw [odM, f2.1 32 (by omega) (by omega)]; exact z8) d5.2.1 hc2, pcall, hbk]
        · intro Mc2 Mm2 o2 ll2 t2 r kd v s2 p2 d1 d2 d3 d4 d5 d6 d7 d8 d9 d10 d11 d12
          exact wO_fail d1 d3 d5 d6 d7 d8 d9 d10 d11 d12
    · rw [if_neg (show ¬ nI c < (2 : Int32) from nI_nlt (b := 2) (by omega) (by omega))] at hcl
      have he : nI c = 2 := by rw [show c = 2 by omega]; rfl
      rw [hcl]
      rw [hcm _ z6, if_neg hn1, if_pos he] at hrn
      exact wO_op hD ht hlim hm hl (by omega) hst0 hrn (oO_fail (kd := 5) (v := 0) (by decide) g1 (fX.rf _ _) rfl rfl)
