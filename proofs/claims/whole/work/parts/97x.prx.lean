/-! read, whole -/
theorem pu_read {S : zzS} {Mc Mm : zzM} (H : puRel S Mc Mm) : lwO_read puRel S Mc Mm := by
  obtain ⟨T, N, w0, o, ll, t, sc, H⟩ := H
  obtain ⟨hS, hC, hR, h63⟩ := pu_dat H
  have H0 := H
  obtain ⟨⟨⟨_, _, k3, k4, k5, k6⟩, ⟨_, m2, m3, m4, m5⟩, d3, d4, ⟨v1, v2, v3, v4, v5, v6, v7, v8, v9⟩, _⟩, ⟨_, va⟩, ⟨x1, x2, x3, x4⟩, fa, h4, hsc, _⟩ := H0
  obtain ⟨w, ew⟩ : ∃ w, w = 1 - w0 := ⟨_, rfl⟩
  have hw : w ≤ 1 := by omega
  have hww : (w0 = 0 ∧ w = 1) ∨ (w0 = 1 ∧ w = 0) := by omega
  have n0 : nI 0 = (0 : Int32) := nI_0
  -- the reference before its text
  obtain ⟨Ma, eMa⟩ : ∃ Ma, Ma = zzsI (zzsI (zzsI (zzsI (zzsI (zzsI (zzsI (zzsI Mm 28 0 0) 28 15 (nI w)) 28 16 0) 28 17 (-1)) 28 18 0) 28 19 0) 28 20 0) 28 21 0 := ⟨_, rfl⟩
  have ia : ∀ a k, ¬ (a = 28 ∧ (k = 0 ∨ (15 ≤ k ∧ k ≤ 21))) → zzI Ma a k = zzI Mm a k := fun a k ha => by
    rw [eMa]
    simp only [plet, pcall, pck, pI_I, pI_L, pI_R, pL_I, pL_L, pL_R, pR_I, pR_L, pR_R]
    by_cases h28 : a = 28
    · rw [if_pos h28, if_neg (by omega), if_pos h28, if_neg (by omega), if_pos h28, if_neg (by omega), if_pos h28, if_neg (by omega), if_pos h28, if_neg (by omega), if_pos h28, if_neg (by omega), if_pos h28, if_neg (by omega), if_pos h28, if_neg (by omega)]
    · rw [if_neg h28, if_neg h28, if_neg h28, if_neg h28, if_neg h28, if_neg h28, if_neg h28, if_neg h28]
  have hva : zzI Ma 28 15 = nI w ∧ zzI Ma 28 16 = 0 ∧ zzI Ma 28 17 = -1 ∧ zzI Ma 28 18 = 0 ∧ zzI Ma 28 19 = 0 ∧ zzI Ma 28 20 = 0 ∧ zzI Ma 28 21 = 0 := by
    rw [eMa]
    refine ⟨?_, ?_, ?_, ?_, ?_, ?_, ?_⟩ <;> simp [plet, pcall, pck, pI_I, pI_L, pI_R, pL_I, pL_L, pL_R, pR_I, pR_L, pR_R]
  have eMa2 : Ma.2 = Mm.2 := by rw [eMa]; rfl
  have hRa : mdR Ma := hR.to (by rw [eMa2])
  obtain ⟨Mm0, b1, b2, b3, b4⟩ := m_r47 hw 26 0 2000 Ma hRa hva.1 (by omega) (by omega)
  have hmr : F_Md_read lwSm Mm 28 = rd 2000 Mm0 := by
    have d3' : zzI (zzsI Mm 28 0 0) 28 3 = nI w0 := d3
    have es : (1 : Int32) - nI w0 = nI w := by rw [ew]; exact psub (a := 1) d4
    unfold F_Md_read
    rw [plet, plet, d3', plet, es, plet, plet, plet, plet, plet, plet, plet, ← eMa, nI_of_0]
    exact b1
  have ib : ∀ a k, ¬ (a = 28 ∧ (k = 0 ∨ (15 ≤ k ∧ k ≤ 21))) → ¬ (a = 38 ∧ 26 * w ≤ k ∧ k < 26 * w + 26) → zzI Mm0 a k = zzI Mm a k := fun a k h1 h2 => (b3 a k (by omega)).trans (ia a k h1)
  have eb2 : Mm0.2 = Mm.2 := b4.trans eMa2
  have hRb : mdR Mm0 := hR.to (by rw [eb2])
  have hb28 : ∀ k, zzI Mm0 28 k = zzI Ma 28 k := fun k => b3 28 k (by omega)
  have hm : mQ Mm0 T N w 0 0 0 0 0 := by
    obtain ⟨q1, q2, q3, q4, q5, q6, q7⟩ := hva
    exact ⟨⟨hRb, (hb28 15).trans q1, hw, (ib 28 1 (by omega) (by omega)).trans x3, x1, fun i hi => ⟨(ib 29 i (by omega) (by omega)).trans (x4 i hi).2.1, (x4 i hi).2.2⟩⟩, ((hb28 16).trans q2).trans n0.symm, (hb28 17).trans q3, ((hb28 18).trans q4).trans n0.symm, ((hb28 19).trans q5).trans n0.symm, ((hb28 20).trans q6).trans n0.symm, ((hb28 21).trans q7).trans n0.symm⟩
  -- the class before its text
  have gA := gS_new S 4 26 26
  have hSA := gA.cl hS
  obtain ⟨u1, u2, u3, u4, u5, u6⟩ := crd_v (S := S) (M := Mc) (N := N) h63
  have hCA : clR (crd S Mc N) := fun q hq => by
    have hs2 : ∀ q ∈ lwrc, q.1 < 63 ∧ ¬ (q.1 = 23 ∧ (q.2.1 = 0 ∨ q.2.1 = 5)) := by decide
    have := hs2 q hq
    rw [crd_R this.2 (by omega)]
    exact hC q hq
  have hkA : zzk (zznew S 4 26 26) S.2.1 = 4 ∧ zzn (zznew S 4 26 26) S.2.1 = 26 := by constructor <;> simp [zzk, zzn, zznew]
  have hlA : S.2.1 < (zznew S 4 26 26).2.1 := by show S.2.1 < S.2.1 + 1; omega
  have hc : cQ (zznew S 4 26 26) (crd S Mc N) T N 0 0 S.2.1 := ⟨⟨hSA, hCA, u1, u2, x1, fun i hi => ⟨(crd_I (by omega) (by omega)).trans (x4 i hi).1, (x4 i hi).2.2⟩⟩, u3.trans n0.symm, by omega, u4, u5.trans n0.symm, by omega, u6, h63, hlA, hkA.1, hkA.2⟩
  have hrd : ∀ (r : Int32) (S2 : zzS) (M2 : zzM) (q : Option Nat) (S1 : zzS) (M1 : zzM), F_Rd_scriptOf S Mc 23 (some 1) (nI N) = some (q, S1, M1) → gS S S1 → gS S1 S2 → zzopt S1 11 q (zzref S1 17 (zzR (zzsI M1 0 1 0) 0 8) fun b6 => zzlet (zzI (zzsI M1 0 1 0) b6 2) fun x7 => zzlet ((-1 : Int32) - x7) fun x8 => some (x8, S1, zzsI M1 0 1 0)) (fun b5 => zzlet (zzsR (zzsI M1 0 1 0) 0 4 (some b5)) fun M => zzref S1 16 (zzR M 0 7) fun b9 => zzcall (F_Rp_forget S1 M b9) fun r10 M => zzref S1 11 (zzR M 0 4) fun b11 => zzlet (zzI M b11 2) fun x12 => some (x12, S1, M)) = some (r, S2, M2) → F_Bs_read S Mc 0 = some (r, S2, M2) := by
    intro r S2 M2 q S1 M1 h1 g1 g2 h2
    have hS1 := g1.cl hS
    unfold F_Bs_read
    rw [cR_0_8 hC, cr_23 hS, cR_0_0 hC, cr_1 hS, plet, x2]
    refine pcallA h1 g1 ?_ g2
    rw [phas (cl_0 hS1) (ck_0 hS1), pck, plet]
    exact h2
  rcases r_body (w := w) rfl hc hm (fun f hf => ⟨crd_f h63, b2 f (by omega) hf⟩) with ⟨S1, Mc1, Mm1, m, q, tl, k, L, a1, a2, a3, a4, a5, a6, a7, a8, a9, a10, a11, a12, a13⟩ | ⟨p, S1, Mc1, Mm1, k, t2, y, a1, a2, a3, a4, a5, a6, a7, a8, a9, a10, a11, a12, a13, a14⟩
  · -- read
    have hS1 := a2.cl hSA
    have hl0 : (zznew S 4 26 26).2.1 = S.2.1 + 1 := rfl
    have hl1 : (zznew S 4 26 26).2.2 = S.2.2 + 26 := rfl
    have htl := a4.2.2.2.2.2.1
    have g3 := gS_new S1 11 0 3
    have gall : gS S (zznew S1 11 0 3) := (gA.tr a2).tr g3
    have hS3 := gall.cl hS
    have hs11 := a2.1
    obtain ⟨bb1, bb2, bb3, bb4, bb5, bb6⟩ := a8
    have h23 := a4.2.2.2.2.1
    obtain ⟨f5, f63, flt, fk, fn⟩ := a4.2.2.2.2.2.2
    have hscr := c_sc_y (b := (zznew S 4 26 26).2.1) hS x1 a1 a2 ⟨bb2, bb3⟩ f5 ⟨flt, fk⟩ h23
    obtain ⟨Mz, eMz⟩ : ∃ Mz, Mz = zzsI (zzsR (zzsR (zzclr Mc1 S1.2.1) S1.2.1 0 (some (zznew S 4 26 26).2.1)) S1.2.1 1 (some S.2.1)) S1.2.1 2 (nI tl) := ⟨_, rfl⟩
    rw [← eMz] at hscr
    have zI : ∀ a j, a < S1.2.1 → zzI Mz a j = zzI Mc1 a j := fun a j ha => by
      rw [eMz, pI_I, if_neg (by omega), pI_R, pI_R]
      simp only [zzI, zzclr]; rw [if_neg (by omega)]
    have zR : ∀ a j, a < S1.2.1 → zzR Mz a j = zzR Mc1 a j := fun a j ha => by
      rw [eMz, pR_I, pR_R, if_neg (by omega), pR_R, if_neg (by omega)]
      simp only [zzR, zzclr]; rw [if_neg (by omega)]
    have zL : ∀ a j, a < S1.2.1 → zzL Mz a j = zzL Mc1 a j := fun a j ha => by
      rw [eMz]
      show zzL (zzclr Mc1 S1.2.1) a j = _
      simp only [zzL, zzclr]; rw [if_neg (by omega)]
    have zs : zzR Mz S1.2.1 0 = some (zznew S 4 26 26).2.1 ∧ zzR Mz S1.2.1 1 = some S.2.1 ∧ zzI Mz S1.2.1 2 = nI tl := by
      rw [eMz]
      refine ⟨?_, ?_, ?_⟩ <;> simp [plet, pcall, pck, pI_I, pI_L, pI_R, pL_I, pL_L, pL_R, pR_I, pR_L, pR_R]
    obtain ⟨My, eMy⟩ : ∃ My, My = zzsR (zzsI Mz 0 1 0) 0 4 (some S1.2.1) := ⟨_, rfl⟩
    have yI : ∀ a j, ¬ (a = 0 ∧ j = 1) → zzI My a j = zzI Mz a j := fun a j ha => by
      rw [eMy, pI_R, pI_I]
      by_cases h : a = 0
      · rw [if_pos h, if_neg (fun e => ha ⟨h, e⟩)]
      · rw [if_neg h]
    have yR : ∀ a j, ¬ (a = 0 ∧ j = 4) → zzR My a j = zzR Mz a j := fun a j ha => by
      rw [eMy, pR_R]
      by_cases h : a = 0
      · rw [if_pos h, if_neg (fun e => ha ⟨h, e⟩)]; rfl
      · rw [if_neg h]; rfl
    have yL : ∀ a j, zzL My a j = zzL Mz a j := fun a j => by rw [eMy]; rfl
    have y01 : zzI My 0 1 = 0 ∧ zzR My 0 4 = some S1.2.1 := by rw [eMy]; constructor <;> simp [plet, pcall, pck, pI_I, pI_L, pI_R, pL_I, pL_L, pL_R, pR_I, pR_L, pR_R]
    -- class cells before the call
    have cI : ∀ a j, a < S.2.1 → a ≠ 23 → a ≠ 26 → ¬ (a = 0 ∧ j = 1) → zzI My a j = zzI Mc a j := fun a j h1 h2 h3 h4 => by
      rw [yI a j h4, zI a j (by omega), a3.1 a j (by omega) h3 (by omega), crd_I h2 (by omega)]
    have cR : ∀ a j, a < S.2.1 → ¬ (a = 23 ∧ (j = 0 ∨ j = 5)) → ¬ (a = 0 ∧ j = 4) → zzR My a j = zzR Mc a j := fun a j h1 h2 h4 => by
      rw [yR a j h4, zR a j (by omega), a3.2.1 a j (by omega) (by omega), crd_R h2 (by omega)]
    have cL : ∀ a j, a < S.2.1 → zzL My a j = zzL Mc a j := fun a j h1 => by
      rw [yL, zL a j (by omega), a3.2.2 a j (by omega), crd_L (by omega)]
    have hCy : clR My := fun q hq => by
      have hs2 : ∀ q ∈ lwrc, q.1 < 63 ∧ ¬ (q.1 = 23 ∧ (q.2.1 = 0 ∨ q.2.1 = 5)) ∧ ¬ (q.1 = 0 ∧ q.2.1 = 4) := by decide
      have h := hs2 q hq
      rw [cR q.1 q.2.1 (by omega) h.2.1 h.2.2]
      exact hC q hq
    -- the reference's end
    have hm6 : m < 600 := by omega
    have h172 := a5 (2000 - (k + 1))
    have e172 : rd 2000 Mm0 = F_Md_read_172 lwSm Mm1 28 := by
      rw [show 2000 - (k + 1) + k + 1 = 2000 by omega] at h172
      exact h172
    have hrc0 : rcM (zzsI Mm1 28 1 0) T 0 w := ⟨a6.1.1, a6.1.2.1, hw, by simp [plet, pcall, pck, pI_I, pI_L, pI_R, pL_I, pL_L, pL_R, pR_I, pR_L, pR_R, nI_0], by omega, fun i hi => absurd hi (by omega)⟩
    obtain ⟨o1, o2, o3, o4, o5, o6⟩ := moM_v (M := zzsI Mm1 28 1 0) (w := w) (m := m) (kd := 20) (wh := 0)
    have hof := moM_f (M := zzsI Mm1 28 1 0) (w := w) (m := m) (q := q) (d := 0) (kd := 20) (wh := 0) hm6
    obtain ⟨Mn, p1, p2, p3, p4, p5⟩ := m_r207 (w := w) (N := N) hw x1 N 0 2000 (moM (zzsI Mm1 28 1 0) w m 20 0) a6.1.1 ((o5 15 (by omega)).trans a6.1.2.1) (by omega) (by omega)
    have hme : F_Md_read lwSm Mm 28 = some (nI tl, mfgt Mn) := by
      have e17 : zzI (zzsI Mm1 28 1 0) 28 17 = -1 := a6.2.2.1
      have e20 : zzI (moM (zzsI Mm1 28 1 0) w m 20 0) 28 20 = nI tl := (o5 20 (by omega)).trans a6.2.2.2.2.2.1
      rw [n0] at p1
      rw [hmr, e172]
      unfold F_Md_read_172
      rw [plet, a6.1.2.2.2.1, plet, plet, e17, if_pos rfl, m_order hrc0 a6.2.2.2.1 hm6, pcall, p1, e20]
    -- the reference's cells
    have s1 : ∀ b j, ¬ (b = 28 ∧ j = 1) → zzI (zzsI Mm1 28 1 0) b j = zzI Mm1 b j := fun b j hb => by
      rw [pI_I]
      by_cases h : b = 28
      · rw [if_pos h, if_neg (fun e => hb ⟨h, e⟩)]
      · rw [if_neg h]
    have nI1 : ∀ b j, ¬ (32 ≤ b ∧ b ≤ 44) → ¬ (b = 28 ∧ (j = 0 ∨ j = 1 ∨ j = 3 ∨ (14 < j ∧ j < 28))) → b ≠ 30 → b ≠ 31 → zzI Mn b j = zzI Mm b j := fun b j h1 h2 h3 h5 => by
      rw [p3 b j (by omega) h3 (by omega), hof.2.2.2.1 b j (by omega) (by omega) (by omega), s1 b j (by omega), a7.2.2.2.1 b j h1 (by omega), ib b j (by omega) (by omega)]
    have nM2 : Mn.2 = Mm.2 := by
      rw [p5, hof.2.2.2.2]
      show Mm1.2 = _
      rw [a7.2.2.2.2, eb2]
    have nL : ∀ b, zzL Mn b = zzL Mm b := fun b => by unfold zzL; rw [nM2]
    have hag : agM w q 0 m Mm1 Mn := ⟨fun a j g1 g2 _ g4 => by
      rw [p3 a _ (by omega) (by omega) (by omega), o6 a j g1 g2 (by omega), s1 a _ (by omega)], fun a j g1 g2 => by
      rw [p3 a _ (by omega) (by omega) (by omega), hof.2.1 a _ g1 (by omega), s1 a _ (by omega)]⟩
    have hT : ∀ i, i < N → zzI Mn 31 (400 * w + i) = nI (T i) := fun i hi => by
      rw [p2 i (by omega) hi, hof.2.2.2.1 29 i (by omega) (by omega) (by omega), s1 29 i (by omega)]
      exact (a6.1.2.2.2.2.2 i hi).1
    have hagc : ∀ lo, 1 ≤ lo → agC lo S1.2.1 S1 (zznew S1 11 0 3) Mc1 My := fun lo hlo => ⟨g3.1, fun a g1 g2 => ⟨g3.2.2 a g2, fun j => by rw [yI a j (by omega), zI a j g2], fun j => by rw [yR a j (by omega), zR a j g2]⟩⟩
    have hqB : qB S1 Mc1 Mm1 w T N q 3 (zznew S 4 26 26).2.1 S1.2.1 (zznew S 4 26 26).2.1 0 m := ⟨Nat.le_refl _, bb2, ⟨bb2, bb3, Or.inr (by omega)⟩, hm6, L, bb6.lo (by omega)⟩
    have hps : psB (zznew S1 11 0 3) My Mn w 3 (zznew S 4 26 26).2.1 0 m := qB.ps x1 (by omega) hT (qB.go (Nat.le_refl q) (hagc _ (by omega)) hag hqB)
    have hbk : bkP (zznew S1 11 0 3) (zznew S 4 26 26).2.1 := ⟨(g3.k bb2 bb3).1, (g3.k bb2 bb3).2, Or.inr (by omega)⟩
    have hfuR : fuR (zznew S1 11 0 3) My Mn w S.2.1 := by
      refine ⟨(g3.k flt fk).1, (g3.k flt fk).2, by unfold zzn; rw [g3.2.2 _ flt]; exact fn, Or.inr (by omega), fun f hf => ?_⟩
      have e38 : zzI Mn 38 (26 * w + f) = zzI Mm1 38 (26 * w + f) := by
        rw [p3 38 _ (by omega) (by omega) (by omega), hof.2.2.2.1 38 _ (by omega) (by omega) (by omega), s1 38 _ (by omega)]
      have efu : zzR My S.2.1 f = zzR Mc1 S.2.1 f := by rw [yR _ _ (by omega), zR _ _ flt]
      rw [e38, efu]
      rcases a9 f hf with h | ⟨h, s, i, j, b, k1, k2, k3, k4, k5, k6, k7, k8, k9, k10, k11, k12, k13⟩
      · exact Or.inl h
      · refine Or.inr ⟨s, b, i, j, k1, k2, (g3.k (show s < S1.2.1 by omega) k5).1, (g3.k (show s < S1.2.1 by omega) k5).2, ?_, k8, qB.ps x1 (by omega) hT (qB.go (Nat.le_refl q) ((hagc (s + 1) (by omega)).mo (Nat.le_refl _) k4) (hag.mo (by omega) (by omega)) k10), ?_⟩
        · rw [yR _ _ (by omega), zR _ _ (by omega)]; exact k7
        · rw [odM, hag.1 32 j (by omega) (by omega) (by omega) k12]; exact k11
    have hscR : scR (zznew S1 11 0 3) My Mn w S1.2.1 := by
      refine ⟨by show S1.2.1 < S1.2.1 + 1; omega, by simp [zzk, zznew], Or.inr (by omega), (zznew S 4 26 26).2.1, S.2.1, m, (yR _ _ (by omega)).trans zs.1, (yR _ _ (by omega)).trans zs.2.1, hbk, hps, ?_, Or.inr hfuR⟩
      rw [odM, p3 32 _ (by omega) (by omega) (by omega)]
      exact o1
    refine ⟨nI tl, zznew S1 11 0 3, cfgt My, mfgt Mn, ?_, hme, ⟨gall.1, gall.2.1⟩, ?_, ?_, T, 0, w, o, ll, 0, S1.2.1, ?_⟩
    · refine hrd _ _ _ _ _ _ hscr gall (gS.rf _) ?_
      rw [poptp (show S1.2.1 < (zznew S1 11 0 3).2.1 from by show S1.2.1 < S1.2.1 + 1; omega) (show zzk (zznew S1 11 0 3) S1.2.1 = 11 by simp [zzk, zznew]), plet, ← eMy, cR_0_7 hCy, cr_19 hS3, c_forget, pcall, cfgt_R (by omega), y01.2, prefp (show S1.2.1 < (zznew S1 11 0 3).2.1 from by show S1.2.1 < S1.2.1 + 1; omega) (show zzk (zznew S1 11 0 3) S1.2.1 = 11 by simp [zzk, zznew]), plet, cfgt_I (by omega), yI _ _ (by omega), zs.2.2]
    · have := a12.1
      show S1.2.1 + 1 ≤ _
      omega
    · have := a12.2
      show S1.2.2 + 3 ≤ _
      omega
    · refine pu_new hS3 hCy (hR.to (by rw [nM2])) p4 hw ((cI 5 1 (by omega) (by omega) (by omega) (by omega)).trans k3) k4 ((nI1 28 28 (by omega) (by omega) (by omega) (by omega)).trans m2) ((cI 5 3 (by omega) (by omega) (by omega) (by omega)).trans k5) k6 ((nI1 28 30 (by omega) (by omega) (by omega) (by omega)).trans m4) ?_ ?_ ?_ ?_ ?_ ⟨by omega, y01.1.trans n0.symm, ?_, fun i hi => absurd hi (by omega)⟩ ?_ y01.2 hscR
      · funext j; rw [cL 6 j (by omega), nL]; exact congrFun v1 j
      · funext j; rw [cL 7 j (by omega), nL]; exact congrFun v2 j
      · funext j; rw [cI 20 j (by omega) (by omega) (by omega) (by omega), nI1 48 j (by omega) (by omega) (by omega) (by omega)]; exact congrFun v4 j
      · funext j; rw [cI 22 j (by omega) (by omega) (by omega) (by omega), nI1 51 j (by omega) (by omega) (by omega) (by omega)]; exact congrFun v6 j
      · intro j hj; rw [cL 17 j (by omega), nL]; exact va j hj
      · rw [p3 28 1 (by omega) (by omega) (by omega), o5 1 (by omega)]; simp [plet, pcall, pck, pI_I, pI_L, pI_R, pL_I, pL_L, pL_R, pR_I, pR_L, pR_R, nI_0]
      · rw [cI 0 2 (by omega) (by omega) (by omega) (by omega), nI1 28 32 (by omega) (by omega) (by omega) (by omega)]; exact fa
  · -- refused
    have hl0 : (zznew S 4 26 26).2.1 = S.2.1 + 1 := rfl
    have hl1 : (zznew S 4 26 26).2.2 = S.2.2 + 26 := rfl
    have gall : gS S S1 := gA.tr a2
    have hS1 := gall.cl hS
    have hs11 := a2.1
    have hscr := c_sc_n hS x1 a1 a2
    have cI : ∀ a j, a < S.2.1 → a ≠ 23 → a ≠ 26 → zzI Mc1 a j = zzI Mc a j := fun a j h1 h2 h3 => by
      rw [a3.1 a j (by omega) h3 (by omega), crd_I h2 (by omega)]
    have cR : ∀ a j, a < S.2.1 → ¬ (a = 23 ∧ (j = 0 ∨ j = 5)) → zzR Mc1 a j = zzR Mc a j := fun a j h1 h2 => by
      rw [a3.2.1 a j (by omega) (by omega), crd_R h2 (by omega)]
    have cL : ∀ a j, a < S.2.1 → zzL Mc1 a j = zzL Mc a j := fun a j h1 => by
      rw [a3.2.2 a j (by omega), crd_L (by omega)]
    have y0 : ∀ a j, ¬ (a = 0 ∧ j = 1) → zzI (zzsI Mc1 0 1 0) a j = zzI Mc1 a j := fun a j ha => by
      rw [pI_I]
      by_cases h : a = 0
      · rw [if_pos h, if_neg (fun e => ha ⟨h, e⟩)]
      · rw [if_neg h]
    have h172 := a6 (2000 - (k + 1))
    have e172 : rd 2000 Mm0 = F_Md_read_172 lwSm Mm1 28 := by
      rw [show 2000 - (k + 1) + k + 1 = 2000 by omega] at h172
      exact h172
    have s1 : ∀ b j, ¬ (b = 28 ∧ j = 1) → zzI (zzsI Mm1 28 1 0) b j = zzI Mm1 b j := fun b j hb => by
      rw [pI_I]
      by_cases h : b = 28
      · rw [if_pos h, if_neg (fun e => hb ⟨h, e⟩)]
      · rw [if_neg h]
    have hme : F_Md_read lwSm Mm 28 = some (-1 - nI p, zzsI Mm1 28 1 0) := by
      have e17 : zzI (zzsI Mm1 28 1 0) 28 17 = nI p := a7
      rw [hmr, e172]
      unfold F_Md_read_172
      rw [plet, plet, plet, e17, if_neg (nI_m1 (by omega)), plet, plet]
    have nI1 : ∀ b j, ¬ (32 ≤ b ∧ b ≤ 44) → ¬ (b = 28 ∧ (j = 0 ∨ j = 1 ∨ (14 < j ∧ j < 28))) → zzI (zzsI Mm1 28 1 0) b j = zzI Mm b j := fun b j h1 h2 => by
      rw [s1 b j (by omega), a8.2.2.2.1 b j h1 (by omega), ib b j (by omega) (by omega)]
    have nM2 : (zzsI Mm1 28 1 0).2 = Mm.2 := by
      show Mm1.2 = _
      rw [a8.2.2.2.2, eb2]
    have nL : ∀ b, zzL (zzsI Mm1 28 1 0) b = zzL Mm b := fun b => by unfold zzL; rw [nM2]
    have hC1 : clR (zzsI Mc1 0 1 0) := fun q hq => by
      have hs2 : ∀ q ∈ lwrc, q.1 < 63 ∧ ¬ (q.1 = 23 ∧ (q.2.1 = 0 ∨ q.2.1 = 5)) := by decide
      have h := hs2 q hq
      show zzR Mc1 q.1 q.2.1 = _
      rw [cR q.1 q.2.1 (by omega) h.2]
      exact hC q hq
    refine ⟨-1 - nI p, S1, zzsI Mc1 0 1 0, zzsI Mm1 28 1 0, ?_, hme, ⟨gall.1, gall.2.1⟩, ?_, ?_, T, 0, w0, o, ll, t, sc, ?_⟩
    · refine hrd _ _ _ _ _ _ hscr gall (gS.rf _) ?_
      have e2 : zzI (zzsI Mc1 0 1 0) 23 2 = nI p := a4
      rw [poptn, cR_0_8 hC1, cr_23 hS1, plet, e2, plet]
    · have := a13.1
      omega
    · have := a13.2
      omega
    · refine pu_go H gall ⟨fun a j h1 h2 _ _ _ h6 h7 _ => ?_, fun a j h1 _ _ _ _ => cL a j h1, fun a j h1 h2 _ => cR a j h1 h2⟩ ⟨fun j hj => nI1 28 j (by omega) (by omega), fun a j h1 h2 => nI1 a j (by omega) (by omega), ⟨fun j hj => nI1 31 _ (by omega) (by omega), fun a j h1 h2 h3 => ?_, fun j hj => ?_, fun a j h1 h2 => ?_⟩, by rw [nL], fun j => by rw [nL], by rw [nM2]⟩ ⟨by omega, by simp [plet, pcall, pck, pI_I, pI_L, pI_R, pL_I, pL_L, pL_R, pR_I, pR_L, pR_R, nI_0], by simp [plet, pcall, pck, pI_I, pI_L, pI_R, pL_I, pL_L, pL_R, pR_I, pR_L, pR_R, nI_0], fun i hi => absurd hi (by omega)⟩ ?_ k4 ((nI1 28 28 (by omega) (by omega)).trans m2) ?_ k6 ((nI1 28 30 (by omega) (by omega)).trans m4) ?_ ?_ ?_
      · rw [y0 a j (by omega), cI a j h1 h6 h7]
      · rw [s1 a _ (by omega), a8.1 a _ h1 h2 (by omega), ib a _ (by omega) (by omega)]
      · rw [s1 38 _ (by omega), a8.2.2.1 _ (by omega), ib 38 _ (by omega) (by omega)]
      · rw [s1 a _ (by omega), a8.2.1 a _ h1 (by omega), ib a _ (by omega) (by omega)]
      · rw [y0 5 1 (by omega), cI 5 1 (by omega) (by omega) (by omega)]; exact k3
      · rw [y0 5 3 (by omega), cI 5 3 (by omega) (by omega) (by omega)]; exact k5
      · funext j
        show zzL Mc1 6 j = _
        rw [cL 6 j (by omega), nL]; exact congrFun v1 j
      · funext j
        show zzL Mc1 7 j = _
        rw [cL 7 j (by omega), nL]; exact congrFun v2 j
      · rw [y0 0 2 (by omega), cI 0 2 (by omega) (by omega) (by omega), nI1 28 32 (by omega) (by omega)]; exact fa
