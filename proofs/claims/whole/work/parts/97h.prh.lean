/-! places, fields, calls, what begins no statement -/
theorem m_154w {M : zzM} {k : Int32} (hw : zzI M 28 17 ≠ -1) : F_Md_readSet_154 lwSm M 28 k = some ((), M) := by
  unfold F_Md_readSet_154
  rw [m_expect_w hw, pcall, plet, if_neg hw]
theorem m_135w {M : zzM} {T : Nat → Nat} {N w m q d : Nat} {v : Int32} (h : rcM M T N w) (hm : m < 600) (hw : zzI M 28 17 ≠ -1) : ∃ M1, F_Md_readSet_135 lwSm M 28 (nI (600 * w + m)) v = some ((), M1) ∧ frR w m q d M M1 ∧ zzI M1 28 17 = zzI M 28 17 := by
  refine ⟨zzsI (zzsI M 28 16 (zzI M 28 16 + 1)) 34 (600 * w + m) v, ?_, (frR_s (by omega)).tr (frR_o (by omega) (Nat.le_refl m) hm) (Nat.le_refl _) (Nat.le_refl _) (Nat.le_refl _), by simp [plet, pcall, pck, pI_I, pI_L, pI_R, pL_I, pL_L, pL_R, pR_I, pR_L, pR_R]⟩
  unfold F_Md_readSet_135
  have hR : mdR (zzsI M 28 16 (zzI M 28 16 + 1)) := h.1
  rw [plet, plet, plet, mR_8 hR, mr_34, w_ix mn_34 h.2.2.1 hm, w_k h.2.2.1 hm, plet, m_154w (by simp [plet, pcall, pck, pI_I, pI_L, pI_R, pL_I, pL_L, pL_R, pR_I, pR_L, pR_R]; exact hw)]
theorem r_plc {S : zzS} {Mc Mm : zzM} {T : Nat → Nat} {N w i m q tl d fu n : Nat} (hc : cQ S Mc T N i tl fu) (hm : mQ Mm T N w i m q tl d) (ht : tl < 100) (hmi : m ≤ i) (hqi : q ≤ i) (hx : chT T N i = 39) : sO S T N w i m q tl d fu Mc Mm (FD_Rd_statement (n + 2) S Mc 23 (nI d)) (fun f => zzcall (F_Md_readStatement lwSm Mm 28) (fun _ M => rd f M)) ∨ rF S N w i tl fu 0 Mc Mm (FD_Rd_statement (n + 2) S Mc 23 (nI d)) (fun f => zzcall (F_Md_readStatement lwSm Mm 28) (fun _ M => rd f M)) := by
  have hN := hc.1.2.2.2.2.1
  have hiN := hc.2.2.1
  have hok := hm.1.ok
  have hw := hm.1.2.2.1
  have hS := hc.1.1
  have hS63 := hS.2.2.2
  have hsh : shN (chT T N i) = 3 := by rw [hx]; decide
  have hkd : kdN (chT T N i) = 39 := by rw [hx]; decide
  have hlt := chT_lt (T := T) (N := N) (i := i) (by omega)
  have hnv : ¬ isV (chT T N i) := by unfold isV; omega
  have ec : chM T N i = (39 : Int32) := chM_is hok (v := 39) (by omega) (by omega) hx
  obtain ⟨b1, b2, b3, b4, b5, b6⟩ := cbg_f (kd := kdN (chT T N i)) (op := opN (chT T N i)) hc ht (by omega) (by omega)
  obtain ⟨h1, h2, h3⟩ := m_head (kd := 3) hm (show m < 600 by omega)
  have hm2 := h1.at (i + 1)
  have hf2 := h2.tr (frR_s (j := 16) (v := nI (i + 1)) (by omega)) (Nat.le_refl _) (Nat.le_refl _) (Nat.le_refl _)
  obtain ⟨v1, v2, v3, v4, v5, v6⟩ := moM_v (M := zzsI Mm 28 20 (nI (tl + 1))) (w := w) (m := m) (kd := 3) (wh := nI i)
  have hrs : ∀ y Mm3, F_Md_readCodes lwSm (zzsI (moM (zzsI Mm 28 20 (nI (tl + 1))) w m 3 (nI i)) 28 16 (nI (i + 1))) 28 0 = some (y, Mm3) → F_Md_readStatement lwSm Mm 28 = F_Md_readSet_154 lwSm (zzsI Mm3 35 (600 * w + m) y) 28 (nI (600 * w + m)) := fun y Mm3 hy => by
    have h20 : mQ (zzsI Mm 28 20 (nI (tl + 1))) T N w i m q (tl + 1) d := hm.tl (tl + 1)
    rw [m_rs hm (by omega) ht, m_isVar_n hok _ _ hnv, pcall, if_pos rfl, if_neg (by rw [ec]; decide), if_pos ec, zc_u]
    unfold F_Md_readSet F_Md_readSet_27 F_Md_readSet_87
    rw [m_peek h20.1 h20.2.1 (by omega), pcall, if_neg (by rw [ec]; decide), if_pos ec, h3, pcall, h1.1.2.1, plet, plet, plet, e600, h1.2.1, plet, plet, plet, ← nI_succ, m_isVar_n hok _ _ hnv, pcall, if_pos rfl, mR_9 hm2.1.1, mr_35, hy, pcall, w_ix mn_35 hw (by omega), w_k hw (by omega), plet, if_neg (by rw [ec]; decide)]
  have hzn := gS_new S 13 0 9
  have hzk : zzk (zznew S 13 0 9) S.2.1 = 13 := by unfold zzk zznew; simp
  have hzl : S.2.1 < (zznew S 13 0 9).2.1 := by show S.2.1 < S.2.1 + 1; omega
  have hl3 : zzsl 3 = 4 := by decide
  rcases P_A (n := n) (dd := nI d) hzl hzk (by omega) b1 hm2 (by omega) with ⟨S0, Mc0, Mm0, i0, q0, e1, e2, e3, e4, e5, e6, e7, e8, e9, e10, e11, e12, e13⟩ | ⟨p, Mc1, Mm1, a1, a2, a3, a4, a5, a6, a7, -⟩
  · have hs0 := e3.k hzl hzk
    have hm3 := e6.ord (a := 35) (k := m) (v := nI q) (by omega) (by omega)
    have hf3 := (hf2.tr (e7.R2 m d) (Nat.le_refl _) (Nat.le_refl _) (Nat.le_refl _)).tr (frR_o (a := 35) (k0 := m) (v := nI q) (by omega) (Nat.le_refl m) (by omega)) (Nat.le_refl _) (Nat.le_refl _) (Nat.le_refl _)
    have h12 : S0.2.1 = S.2.1 + 1 + 1 := e12
    have h13 : S0.2.2 ≤ S.2.2 + 9 + (i0 - (i + 1)) := e13
    rcases r_tail (n := n) (sh := 3) (j := 1) (f := 1995) (dd := nI d) hs0.1 hs0.2 (by omega) e5 hm3 (by omega) (by omega) (by omega) (by decide) (by decide) (by decide) (by decide) (by decide) with ⟨S1, Mc1, Mm1, i2, q2, a1, a2, a3, a4, a5, a6, a7, a8, a9, a10, a11, a12, a13, a14⟩ | H
    · left
      have hst : FD_Rd_statement (n + 2) S Mc 23 (nI d) = some (some S.2.1, S1, Mc1) := by
        refine c_stmt0 hc ht (by rw [hsh]; omega) ?_ (e3.tr a3)
        rw [hsh]
        exact s58_y (q := 1999) (c := 65) e5.1.1 (by omega) (by rw [hl3]; omega) (by omega) (by rw [hl3]; omega) (by decide) e1 e3 a1 a3
      have hI : ∀ k, zzI Mc1 S.2.1 k = zzI (cbg S Mc (kdN (chT T N i)) (opN (chT T N i)) i tl (lnT (fun i => nI (T i)) i)) S.2.1 k := fun k => (a4.1 S.2.1 k hs0.1 (by omega) (by omega)).trans (e4.1 S.2.1 k hzl (by omega) (by omega))
      refine ⟨S1, Mc1, Mm1, i2, m + 1, q2, tl + 1, 0, hst, hzn.tr (e3.tr a3), (b2.tr (e4.N (by omega)) (Nat.le_refl _)).tr (a4.N (by omega)) (Nat.le_refl _), a5, ?_, fun f => ?_, a6, hf3.tr a7 (Nat.le_refl _) (by omega) (Nat.le_refl _), ⟨by omega, by omega, by omega, i, ?_, ?_, Or.inr (Or.inr (Or.inr (Or.inl ⟨?_, ?_, ?_, ?_, rfl⟩)))⟩, by omega, by omega, by omega, by omega, by omega, ⟨by omega, by omega⟩, by omega⟩
      · rw [a4.2.1 S.2.1 8 hs0.1 (by omega), e4.2.1 S.2.1 8 hzl (by omega)]; exact b6 8
      · show zzcall (F_Md_readStatement lwSm Mm 28) (fun _ M => rd f M) = _
        rw [hrs _ _ e2, a2, pcall]
      · obtain ⟨s1, s2, s3, s4, s5, s6⟩ := b5
        exact ⟨s1, ((e3.tr a3).k s2 s3).1, ((e3.tr a3).k s2 s3).2, s4, (hI 1).trans s5, (hI 2).trans s6⟩
      · rw [plM, a8 33 (by omega) (by omega) (by omega), pI_I, if_neg (by decide), (e7.R2 (m + 1) d).1 33 _ (by omega) (by omega) (by omega), pI_I, if_neg (by decide)]
        exact v2
      · rw [hI 0, b3, hkd]
      · rw [odM, a8 32 (by omega) (by omega) (by omega), pI_I, if_neg (by decide), (e7.R2 (m + 1) d).1 32 _ (by omega) (by omega) (by omega), pI_I, if_neg (by decide)]
        exact v1
      · have e4r : zzR Mc1 S.2.1 4 = zzR Mc0 S.2.1 4 := a4.2.1 S.2.1 4 hs0.1 (by omega)
        have efi : fiM Mm1 w m = nI q := by rw [fiM, a8 35 (by omega) (by omega) (by omega)]; simp [plet, pcall, pck, pI_I, pI_L, pI_R, pL_I, pL_L, pL_R, pR_I, pR_L, pR_R]
        rw [e4r, efi]
        have h8' : exQ S0 Mc0 (zzsI Mm0 35 (600 * w + m) (nI q)) w q0 (S.2.1 + 1) S0.2.1 (zzR Mc0 S.2.1 4) (nI q) := exQ.go (i := 0) (j := 0) e8 ⟨Nat.le_refl _, fun a _ _ => ⟨rfl, fun _ => rfl, fun _ => rfl⟩⟩ ⟨fun a k _ _ _ h => by omega, fun a k h1 _ => by rw [pI_I, if_neg (by omega)]⟩ (Nat.le_refl _)
        obtain ⟨x, fn, cs, y1, y2, y3, y4, y5⟩ := exQ.go (i := 0) h8' (a4.ag a3 (by omega)) a7.ag (show q0 ≤ q2 by omega)
        exact ⟨x, fn, cs, y1, y2, y3, by omega, y5⟩
      · obtain ⟨x, fn, cs, y1, y2, y3, y4, y5⟩ := a9
        exact ⟨x, fn, cs, y1, y2, by omega, y4, y5⟩
    · right
      exact (show tF S.2.1 N w i0 S0 Mc0 _ (FD_Rd_statement (n + 2) S Mc 23 (nI d)) _ from by
        obtain ⟨p, S1, Mc1, Mm1, z, y1, y2, y3, y4⟩ := H
        refine ⟨p, S1, Mc1, Mm1, z, c_stmt0 hc ht (by rw [hsh]; omega) ?_ (e3.tr y3), y2, y3, y4⟩
        rw [hsh]
        exact s58_y (q := 1999) (c := 65) e5.1.1 (by omega) (by rw [hl3]; omega) (by omega) (by rw [hl3]; omega) (by decide) e1 e3 y1 y3).r (n := 0) (sh := 0) (c0 := 0) rfl (hzn.tr e3) (b2.tr (e4.N (by omega)) (Nat.le_refl _)) hf3.Z (fun f => by rw [hrs _ _ e2]) (by omega) ht hN (by omega) (by omega)
  · right
    have hwr : zzI (zzsI Mm1 35 (600 * w + m) (nI q)) 28 17 = nI p := by rw [pI_I, if_neg (by decide)]; exact a6
    have e1 : FD_Rd_statement (n + 2) S Mc 23 (nI d) = some (none, zznew S 13 0 9, Mc1) := by
      refine c_stmt0 hc ht (by rw [hsh]; omega) ?_ (gS.rf _)
      rw [hsh]
      exact s58_n (q := 1999) (c := 65) (by omega) (by rw [hl3]; omega) (by omega) (by rw [hl3]; omega) (by decide) a1 (gS.rf _)
    refine rF_w (t2 := tl + 1) (y := i + 1) (p := p) e1 hzn (b2.tr (a3.N (by omega)) (Nat.le_refl _)).Z a4 a5 (Mm1 := zzsI Mm1 35 (600 * w + m) (nI q)) (fun f => ?_) hwr (by omega) ((hf2.Z.tr (a7.R2 m d).Z).tr (frR_o (m := m) (q := q) (d := d) (by omega) (Nat.le_refl m) (by omega)).Z) (by omega) (by omega) (by omega) (by omega) ⟨by show S.2.1 + 1 ≤ _; omega, by show S.2.2 + 9 ≤ _; omega⟩
    show zzcall (F_Md_readStatement lwSm Mm 28) (fun _ M => rd f M) = _
    rw [hrs _ _ a2, m_154w (by rw [hwr]; exact nI_m1 (by omega)), pcall]
theorem r_fld {S : zzS} {Mc Mm : zzM} {T : Nat → Nat} {N w i m q tl d fu n : Nat} (hc : cQ S Mc T N i tl fu) (hm : mQ Mm T N w i m q tl d) (ht : tl < 100) (hmi : m ≤ i) (hqi : q ≤ i) (hx : chT T N i = 64) : sO S T N w i m q tl d fu Mc Mm (FD_Rd_statement (n + 2) S Mc 23 (nI d)) (fun f => zzcall (F_Md_readStatement lwSm Mm 28) (fun _ M => rd f M)) ∨ rF S N w i tl fu 0 Mc Mm (FD_Rd_statement (n + 2) S Mc 23 (nI d)) (fun f => zzcall (F_Md_readStatement lwSm Mm 28) (fun _ M => rd f M)) := by
  have hN := hc.1.2.2.2.2.1
  have hiN := hc.2.2.1
  have hok := hm.1.ok
  have hw := hm.1.2.2.1
  have hS := hc.1.1
  have hS63 := hS.2.2.2
  have hsh : shN (chT T N i) = 2 := by rw [hx]; decide
  have hkd : kdN (chT T N i) = 64 := by rw [hx]; decide
  have hlt := chT_lt (T := T) (N := N) (i := i) (by omega)
  have hnv : ¬ isV (chT T N i) := by unfold isV; omega
  have ec : chM T N i = (64 : Int32) := chM_is hok (v := 64) (by omega) (by omega) hx
  obtain ⟨b1, b2, b3, b4, b5, b6⟩ := cbg_f (kd := kdN (chT T N i)) (op := opN (chT T N i)) hc ht (by omega) (by omega)
  obtain ⟨h1, h2, h3⟩ := m_head (kd := 2) hm (show m < 600 by omega)
  have hm2 := h1.at (i + 1)
  have hf2 := h2.tr (frR_s (j := 16) (v := nI (i + 1)) (by omega)) (Nat.le_refl _) (Nat.le_refl _) (Nat.le_refl _)
  obtain ⟨v1, v2, v3, v4, v5, v6⟩ := moM_v (M := zzsI Mm 28 20 (nI (tl + 1))) (w := w) (m := m) (kd := 2) (wh := nI i)
  have hrs : ∀ y Mm3, F_Md_readCodes lwSm (zzsI (moM (zzsI Mm 28 20 (nI (tl + 1))) w m 2 (nI i)) 28 16 (nI (i + 1))) 28 0 = some (y, Mm3) → F_Md_readStatement lwSm Mm 28 = F_Md_readSet_87 lwSm (zzsI Mm3 35 (600 * w + m) y) 28 64 (nI (600 * w + m)) := fun y Mm3 hy => by
    have h20 : mQ (zzsI Mm 28 20 (nI (tl + 1))) T N w i m q (tl + 1) d := hm.tl (tl + 1)
    rw [m_rs hm (by omega) ht, m_isVar_n hok _ _ hnv, pcall, if_pos rfl, if_pos ec, zc_u]
    unfold F_Md_readSet F_Md_readSet_27
    rw [m_peek h20.1 h20.2.1 (by omega), pcall, if_pos ec, h3, pcall, h1.1.2.1, plet, plet, plet, e600, h1.2.1, plet, plet, plet, ← nI_succ, m_isVar_n hok _ _ hnv, pcall, if_pos rfl, mR_9 hm2.1.1, mr_35, hy, pcall, w_ix mn_35 hw (by omega), w_k hw (by omega), plet, ec]
  have hzn := gS_new S 13 0 9
  have hzk : zzk (zznew S 13 0 9) S.2.1 = 13 := by unfold zzk zznew; simp
  have hzl : S.2.1 < (zznew S 13 0 9).2.1 := by show S.2.1 < S.2.1 + 1; omega
  have hl2 : zzsl 2 = 6 := by decide
  -- the reference once something is wrong
  have hbad : ∀ (M : zzM) (j p : Nat), rcM M T N w → zzI M 28 16 = nI j → j < 1000 → zzI M 28 17 = nI p → p < 100000 → ∃ M1, (zzcall (F_Md_peek lwSm M 28) fun r2 M => zzlet (r2 - (48 : Int32)) fun x3 => zzlet (zzI M 28 17) fun x4 => if x4 = (-1 : Int32) then (if x3 < 0 then (F_Md_readSet_127 lwSm M 28 (nI (600 * w + m)) x3) else (if x3 ≤ (5 : Int32) then (F_Md_readSet_135 lwSm M 28 (nI (600 * w + m)) x3) else (F_Md_readSet_127 lwSm M 28 (nI (600 * w + m)) x3))) else (F_Md_readSet_135 lwSm M 28 (nI (600 * w + m)) x3)) = some ((), M1) ∧ frR w m q d M M1 ∧ zzI M1 28 17 = nI p := fun M j p g1 g2 g3 g4 g5 => by
    obtain ⟨M1, k1, k2, k3⟩ := m_135w (v := chM T N j - 48) (q := q) (d := d) g1 (show m < 600 by omega) (by rw [g4]; exact nI_m1 g5)
    refine ⟨M1, ?_, k2, k3.trans g4⟩
    rw [m_peek g1 g2 g3, pcall, plet, plet, g4, if_neg (nI_m1 g5)]
    exact k1
  rcases P_A (n := n) (dd := nI d) hzl hzk (by omega) b1 hm2 (by omega) with ⟨S0, Mc0, Mm0, i0, q0, e1, e2, e3, e4, e5, e6, e7, e8, e9, e10, e11, e12, e13⟩ | ⟨p, Mc1, Mm1, a1, a2, a3, a4, a5, a6, a7, j0, a8, a9⟩
  · have hs0 := e3.k hzl hzk
    have hi0N := e5.2.2.1
    have hm3 := e6.ord (a := 35) (k := m) (v := nI q) (by omega) (by omega)
    have hf3 := (hf2.tr (e7.R2 m d) (Nat.le_refl _) (Nat.le_refl _) (Nat.le_refl _)).tr (frR_o (a := 35) (k0 := m) (v := nI q) (by omega) (Nat.le_refl m) (by omega)) (Nat.le_refl _) (Nat.le_refl _) (Nat.le_refl _)
    have h12 : S0.2.1 = S.2.1 + 1 + 1 := e12
    have h13 : S0.2.2 ≤ S.2.2 + 9 + (i0 - (i + 1)) := e13
    have hfc0 : fcN S.2.1 Mc Mc0 := b2.tr (e4.N (by omega)) (Nat.le_refl _)
    have hex := m_expect hm3.1 hm3.2.1 (show i0 < 1000 by omega) hm3.2.2.1 (show 58 < 1000 by omega) (by omega)
    have hpt := p_t (n := n) (s := S.2.1) (dd := nI d) (v := 58) e5.1 e5.2.1 hi0N (by omega)
    have hstA : ∀ (r : Option Nat) (S9 : zzS) (M9 : zzM), gS S0 S9 → cS58 (n + 1) 1999 S0 Mc0 23 (nI d) 2 (some S.2.1) (nI 1) = some (r, S9, M9) → FD_Rd_statement (n + 2) S Mc 23 (nI d) = some (r, S9, M9) := fun r S9 M9 g9 h9 => by
      refine c_stmt0 hc ht (by rw [hsh]; omega) ?_ (e3.tr g9)
      rw [hsh]
      exact s58_y (q := 1999) (c := 65) e5.1.1 (by omega) (by rw [hl2]; omega) (by omega) (by rw [hl2]; omega) (by decide) e1 e3 h9 g9
    by_cases h58 : chT T N i0 = 58
    · rw [if_pos h58] at hex hpt
      have hlt0 := (chT_lt (T := T) (N := N) (i := i0) (by omega)).1
      have hm4 := hm3.at (i0 + 1)
      have hc4 : cQ S0 (zzsI Mc0 23 2 (nI (i0 + 1))) T N (i0 + 1) (tl + 1) fu := e5.N (gS.rf _) (fcN_23 (by omega)) (by simp [plet, pcall, pck, pI_I, pI_L, pI_R, pL_I, pL_L, pL_R, pR_I, pR_L, pR_R]) (by omega) (by omega) (nn_1 (N := N) (by omega) (by omega)) (by simp [plet, pcall, pck, pI_I, pI_L, pI_R, pL_I, pL_L, pL_R, pR_I, pR_L, pR_R]) (by simp [plet, pcall, pck, pI_I, pI_L, pI_R, pL_I, pL_L, pL_R, pR_I, pR_L, pR_R]; exact e5.2.2.2.2.1) (by omega)
      have hpd := p_D (n := n) (s := S.2.1) (dd := nI d) hc4.1 hc4.2.1 hc4.2.2.1 hs0.1 hs0.2
      have e87 : F_Md_readSet_87 lwSm (zzsI Mm0 35 (600 * w + m) (nI q)) 28 64 (nI (600 * w + m)) = (if chM T N (i0 + 1) - 48 < 0 then (F_Md_readSet_127 lwSm (zzsI (zzsI Mm0 35 (600 * w + m) (nI q)) 28 16 (nI (i0 + 1))) 28 (nI (600 * w + m)) (chM T N (i0 + 1) - 48)) else (if chM T N (i0 + 1) - 48 ≤ (5 : Int32) then (F_Md_readSet_135 lwSm (zzsI (zzsI Mm0 35 (600 * w + m) (nI q)) 28 16 (nI (i0 + 1))) 28 (nI (600 * w + m)) (chM T N (i0 + 1) - 48)) else (F_Md_readSet_127 lwSm (zzsI (zzsI Mm0 35 (600 * w + m) (nI q)) 28 16 (nI (i0 + 1))) 28 (nI (600 * w + m)) (chM T N (i0 + 1) - 48)))) := by
        unfold F_Md_readSet_87
        rw [if_pos rfl, show (58 : Int32) = nI 58 from rfl, hex, pcall, m_peek hm4.1 hm4.2.1 (by omega), pcall, plet, plet, hm4.2.2.1, if_pos rfl]
      by_cases hd : 48 ≤ chT T N (i0 + 1) ∧ chT T N (i0 + 1) ≤ 53
      · rw [if_pos hd] at hpd
        have hlt1 := chT_lt (T := T) (N := N) (i := i0 + 1) (by omega)
        have ec1 : chM T N (i0 + 1) = nI (chT T N (i0 + 1)) := by unfold chM; rw [if_pos hlt1.1, hlt1.2]
        have e48 : nI (chT T N (i0 + 1)) - (48 : Int32) = nI (chT T N (i0 + 1) - 48) := psub (b := 48) hd.1
        have hm5 := (hm4.at (i0 + 2)).ord (a := 34) (k := m) (v := nI (chT T N (i0 + 1) - 48)) (by omega) (by omega)
        have hf5 := ((hf3.tr (frR_s (j := 16) (v := nI (i0 + 1)) (by omega)) (Nat.le_refl _) (Nat.le_refl _) (Nat.le_refl _)).tr (frR_s (j := 16) (v := nI (i0 + 2)) (by omega)) (Nat.le_refl _) (Nat.le_refl _) (Nat.le_refl _)).tr (frR_o (a := 34) (k0 := m) (v := nI (chT T N (i0 + 1) - 48)) (by omega) (Nat.le_refl m) (by omega)) (Nat.le_refl _) (Nat.le_refl _) (Nat.le_refl _)
        have e135 : F_Md_readSet_87 lwSm (zzsI Mm0 35 (600 * w + m) (nI q)) 28 64 (nI (600 * w + m)) = F_Md_readSet_154 lwSm (zzsI (zzsI (zzsI (zzsI Mm0 35 (600 * w + m) (nI q)) 28 16 (nI (i0 + 1))) 28 16 (nI (i0 + 2))) 34 (600 * w + m) (nI (chT T N (i0 + 1) - 48))) 28 (nI (600 * w + m)) := by
          rw [e87, ec1, e48, if_neg (nI_pos (by omega)), if_pos (show nI (chT T N (i0 + 1) - 48) ≤ (5 : Int32) from nI_le (b := 5) (by omega) (by omega))]
          unfold F_Md_readSet_135
          rw [hm4.2.1, plet, plet, plet, ← nI_succ, mR_8 (hm4.at (i0 + 2)).1.1, mr_34, w_ix mn_34 hw (by omega), w_k hw (by omega), plet]
        have hc5 : cQ S0 (zzsI (zzsI (zzsI Mc0 23 2 (nI (i0 + 1))) 23 2 (nI (i0 + 1 + 1))) S.2.1 3 (nI (chT T N (i0 + 1) - 48))) T N (i0 + 2) (tl + 1) fu := by
          obtain ⟨c1, c2, c3, c4, c5, c6, c7, c8, c9, c10, c11⟩ := hc4
          have hne : ∀ j, zzI (zzsI (zzsI (zzsI Mc0 23 2 (nI (i0 + 1))) 23 2 (nI (i0 + 1 + 1))) S.2.1 3 (nI (chT T N (i0 + 1) - 48))) 23 j = zzI (zzsI (zzsI Mc0 23 2 (nI (i0 + 1))) 23 2 (nI (i0 + 1 + 1))) 23 j := fun j => by rw [pI_I, if_neg (by omega)]
          obtain ⟨r1, r2, r3, r4, r5, r6⟩ := c1
          refine ⟨⟨r1, r2, r3, (hne 1).trans (by simp [plet, pcall, pck, pI_I, pI_L, pI_R, pL_I, pL_L, pL_R, pR_I, pR_L, pR_R]; simpa [plet, pcall, pck, pI_I, pI_L, pI_R, pL_I, pL_L, pL_R, pR_I, pR_L, pR_R] using r4), r5, fun j hj => ⟨?_, (r6 j hj).2⟩⟩, (hne 2).trans (by simp [plet, pcall, pck, pI_I, pI_L, pI_R, pL_I, pL_L, pL_R, pR_I, pR_L, pR_R]), by omega, (hne 3).trans ?_, (hne 4).trans (by simp [plet, pcall, pck, pI_I, pI_L, pI_R, pL_I, pL_L, pL_R, pR_I, pR_L, pR_R]; simpa [plet, pcall, pck, pI_I, pI_L, pI_R, pL_I, pL_L, pL_R, pR_I, pR_L, pR_R] using c5), c6, c7, c8, c9, c10, c11⟩
          · rw [pI_I, if_neg (by omega), pI_I, if_neg (by decide)]
            exact (r6 j hj).1
          · rw [ln_nn (fun i hi => (r6 i hi).2) (show i0 + 1 ≤ i0 + 2 by omega) (by omega) (nn_1 (N := N) (i := i0 + 1) (by omega) (by omega))]
            simpa [plet, pcall, pck, pI_I, pI_L, pI_R, pL_I, pL_L, pL_R, pR_I, pR_L, pR_R] using c4
        have hp5 : pfr S.2.1 4 (zznew S 13 0 9).2.1 (cbg S Mc (kdN (chT T N i)) (opN (chT T N i)) i tl (lnT (fun i => nI (T i)) i)) Mc0 := e4
        rcases r_tail (n := n) (sh := 2) (j := 3) (f := 1993) (dd := nI d) hs0.1 hs0.2 (by omega) hc5 hm5 (by omega) (by omega) (by omega) (by decide) (by decide) (by decide) (by decide) (by decide) with ⟨S1, Mc1, Mm1, i2, q2, a1, a2, a3, a4, a5, a6, a7, a8, a9, a10, a11, a12, a13, a14⟩ | H
        · left
          have hst := hstA (some S.2.1) S1 Mc1 a3 (by
            refine s58_y (q := 1998) (c := nI 58) e5.1.1 (by omega) (by rw [hl2]; omega) (by omega) (by rw [hl2]; omega) (by decide) hpt (gS.rf _) ?_ a3
            exact s58_y (q := 1997) (c := 68) e5.1.1 (by omega) (by rw [hl2]; omega) (by omega) (by rw [hl2]; omega) (by decide) hpd (gS.rf _) a1 a3)
          have hI : ∀ k, k ≠ 3 → zzI Mc1 S.2.1 k = zzI (cbg S Mc (kdN (chT T N i)) (opN (chT T N i)) i tl (lnT (fun i => nI (T i)) i)) S.2.1 k := fun k hk => by
            rw [a4.1 S.2.1 k hs0.1 (by omega) (by omega), pI_I, if_pos rfl, if_neg hk, pI_I, if_neg (by omega), pI_I, if_neg (by omega)]
            exact e4.1 S.2.1 k hzl (by omega) (by omega)
          have hR : ∀ k, k ≠ 5 → zzR Mc1 S.2.1 k = zzR Mc0 S.2.1 k := fun k hk => a4.2.1 S.2.1 k hs0.1 (by omega)
          have hfn : fcN S.2.1 Mc Mc1 := by
            refine (hfc0.tr (n1 := S.2.1) (M1 := Mc0) ?_ (Nat.le_refl _)).tr (a4.N (by omega)) (Nat.le_refl _)
            exact ((fcN_23 (by omega)).tr (fcN_23 (by omega)) (Nat.le_refl _)).tr (fcN_n (Nat.le_refl _)) (Nat.le_refl _)
          refine ⟨S1, Mc1, Mm1, i2, m + 1, q2, tl + 1, 0, hst, hzn.tr (e3.tr a3), hfn, a5, ?_, fun f => ?_, a6, hf5.tr a7 (Nat.le_refl _) (by omega) (Nat.le_refl _), ⟨by omega, by omega, by omega, i, ?_, ?_, Or.inr (Or.inr (Or.inl ⟨?_, ?_, ⟨chT T N (i0 + 1) - 48, by omega, ?_, ?_⟩, ?_, ?_, rfl⟩))⟩, by omega, by omega, by omega, by omega, by omega, ⟨by omega, by omega⟩, by omega⟩
          · rw [hR 8 (by omega), e4.2.1 S.2.1 8 hzl (by omega)]; exact b6 8
          · show zzcall (F_Md_readStatement lwSm Mm 28) (fun _ M => rd f M) = _
            rw [hrs _ _ e2, e135, a2, pcall]
          · obtain ⟨s1, s2, s3, s4, s5, s6⟩ := b5
            exact ⟨s1, ((e3.tr a3).k s2 s3).1, ((e3.tr a3).k s2 s3).2, s4, (hI 1 (by omega)).trans s5, (hI 2 (by omega)).trans s6⟩
          · rw [plM, a8 33 (by omega) (by omega) (by omega)]
            simp only [plet, pcall, pck, pI_I, pI_L, pI_R, pL_I, pL_L, pL_R, pR_I, pR_L, pR_R]
            rw [if_neg (by decide), if_neg (by decide), if_neg (by decide), if_neg (by decide), (e7.R2 (m + 1) d).1 33 _ (by omega) (by omega) (by omega), pI_I, if_neg (by decide)]
            exact v2
          · rw [hI 0 (by omega), b3, hkd]
          · rw [odM, a8 32 (by omega) (by omega) (by omega)]
            simp only [plet, pcall, pck, pI_I, pI_L, pI_R, pL_I, pL_L, pL_R, pR_I, pR_L, pR_R]
            rw [if_neg (by decide), if_neg (by decide), if_neg (by decide), if_neg (by decide), (e7.R2 (m + 1) d).1 32 _ (by omega) (by omega) (by omega), pI_I, if_neg (by decide)]
            exact v1
          · rw [a4.1 S.2.1 3 hs0.1 (by omega) (by omega), pI_I, if_pos rfl, if_pos rfl]
          · rw [gvM, a8 34 (by omega) (by omega) (by omega)]
            simp [plet, pcall, pck, pI_I, pI_L, pI_R, pL_I, pL_L, pL_R, pR_I, pR_L, pR_R]
          · have efi : fiM Mm1 w m = nI q := by rw [fiM, a8 35 (by omega) (by omega) (by omega)]; simp [plet, pcall, pck, pI_I, pI_L, pI_R, pL_I, pL_L, pL_R, pR_I, pR_L, pR_R]
            rw [hR 4 (by omega), efi]
            have h8' : exQ S0 (zzsI (zzsI (zzsI Mc0 23 2 (nI (i0 + 1))) 23 2 (nI (i0 + 1 + 1))) S.2.1 3 (nI (chT T N (i0 + 1) - 48))) (zzsI (zzsI (zzsI (zzsI Mm0 35 (600 * w + m) (nI q)) 28 16 (nI (i0 + 1))) 28 16 (nI (i0 + 2))) 34 (600 * w + m) (nI (chT T N (i0 + 1) - 48))) w q0 (S.2.1 + 1) S0.2.1 (zzR Mc0 S.2.1 4) (nI q) := exQ.go (i := 0) (j := 0) e8 ⟨Nat.le_refl _, fun a g1 _ => ⟨rfl, fun k => by
              have g1' : S.2.1 + 1 ≤ a := g1
              simp only [plet, pcall, pck, pI_I, pI_L, pI_R, pL_I, pL_L, pL_R, pR_I, pR_L, pR_R]
              rw [if_neg (by omega), if_neg (by omega), if_neg (by omega)], fun _ => rfl⟩⟩ ⟨fun a k _ _ _ h => by omega, fun a k h1 _ => by
              simp only [plet, pcall, pck, pI_I, pI_L, pI_R, pL_I, pL_L, pL_R, pR_I, pR_L, pR_R]
              rw [if_neg (by omega), if_neg (by omega), if_neg (by omega), if_neg (by omega)]⟩ (Nat.le_refl _)
            obtain ⟨x, fn, cs, y1, y2, y3, y4, y5⟩ := exQ.go (i := 0) h8' (a4.ag a3 (by omega)) a7.ag (show q0 ≤ q2 by omega)
            exact ⟨x, fn, cs, y1, y2, y3, by omega, y5⟩
          · obtain ⟨x, fn, cs, y1, y2, y3, y4, y5⟩ := a9
            exact ⟨x, fn, cs, y1, y2, by omega, y4, y5⟩
        · right
          exact (show tF S.2.1 N w (i0 + 2) S0 _ _ (FD_Rd_statement (n + 2) S Mc 23 (nI d)) _ from by
            obtain ⟨p, S1, Mc1, Mm1, z, y1, y2, y3, y4⟩ := H
            refine ⟨p, S1, Mc1, Mm1, z, hstA none S1 Mc1 y3 ?_, y2, y3, y4⟩
            refine s58_y (q := 1998) (c := nI 58) e5.1.1 (by omega) (by rw [hl2]; omega) (by omega) (by rw [hl2]; omega) (by decide) hpt (gS.rf _) ?_ y3
            exact s58_y (q := 1997) (c := 68) e5.1.1 (by omega) (by rw [hl2]; omega) (by omega) (by rw [hl2]; omega) (by decide) hpd (gS.rf _) y1 y3).r (n := 0) (sh := 0) (c0 := 0) rfl (hzn.tr e3) (hfc0.tr (((fcN_23 (by omega)).tr (fcN_23 (by omega)) (Nat.le_refl _)).tr (fcN_n (Nat.le_refl _)) (Nat.le_refl _)) (Nat.le_refl _)) hf5.Z (fun f => by rw [hrs _ _ e2, e135]) (by omega) ht hN (by omega) (by omega)
      · right
        rw [if_neg hd] at hpd
        have hst := hstA none S0 (zzsI (zzsI Mc0 23 2 (nI (i0 + 1))) S.2.1 3 (-1)) (gS.rf _) (by
          refine s58_y (q := 1998) (c := nI 58) e5.1.1 (by omega) (by rw [hl2]; omega) (by omega) (by rw [hl2]; omega) (by decide) hpt (gS.rf _) ?_ (gS.rf _)
          exact s58_n (q := 1997) (c := 68) (by omega) (by rw [hl2]; omega) (by omega) (by rw [hl2]; omega) (by decide) hpd (gS.rf _))
        have hrc6 : rcM (zzsI (zzsI (zzsI Mm0 35 (600 * w + m) (nI q)) 28 16 (nI (i0 + 1))) 28 17 (nI (i0 + 1))) T N w := hm4.1.R2 (frR_s (m := m) (q := q) (d := d) (by omega))
        have hwr6 : zzI (zzsI (zzsI (zzsI Mm0 35 (600 * w + m) (nI q)) 28 16 (nI (i0 + 1))) 28 17 (nI (i0 + 1))) 28 17 = nI (i0 + 1) := by simp [plet, pcall, pck, pI_I, pI_L, pI_R, pL_I, pL_L, pL_R, pR_I, pR_L, pR_R]
        obtain ⟨M6, k1, k2, k3⟩ := m_135w (v := chM T N (i0 + 1) - 48) (q := q) (d := d) hrc6 (show m < 600 by omega) (by rw [hwr6]; exact nI_m1 (by omega))
        have e127 : F_Md_readSet_127 lwSm (zzsI (zzsI Mm0 35 (600 * w + m) (nI q)) 28 16 (nI (i0 + 1))) 28 (nI (600 * w + m)) (chM T N (i0 + 1) - 48) = some ((), M6) := by
          unfold F_Md_readSet_127
          rw [hm4.2.1, plet, plet]
          exact k1
        have e87' : F_Md_readSet_87 lwSm (zzsI Mm0 35 (600 * w + m) (nI q)) 28 64 (nI (600 * w + m)) = some ((), M6) := by
          rw [e87]
          by_cases hlt1 : i0 + 1 < N
          · have hT := hok (i0 + 1) hlt1
            unfold okc at hT
            have hcx : chT T N (i0 + 1) = T (i0 + 1) := if_pos hlt1
            have ec1 : chM T N (i0 + 1) = nI (T (i0 + 1)) := if_pos hlt1
            by_cases h48 : T (i0 + 1) < 48
            · rw [if_pos (show chM T N (i0 + 1) - (48 : Int32) < 0 by rw [ec1]; exact pk_sneg (b := 48) (by omega) h48)]
              exact e127
            · have e48 : chM T N (i0 + 1) - (48 : Int32) = nI (T (i0 + 1) - 48) := by rw [ec1]; exact psub (b := 48) (by omega)
              rw [if_neg (by rw [e48]; exact nI_pos (by omega)), if_neg (by rw [e48]; exact nI_ge (a := 5) (by omega) (by omega))]
              exact e127
          · have ec1 : chM T N (i0 + 1) = -1 := if_neg hlt1
            rw [if_pos (show chM T N (i0 + 1) - (48 : Int32) < 0 by rw [ec1]; decide)]
            exact e127
        refine rF_w (t2 := tl + 1) (y := i0) (p := i0 + 1) hst (hzn.tr e3) (hfc0.tr ((fcN_23 (by omega)).tr (fcN_n (Nat.le_refl _)) (Nat.le_refl _)) (Nat.le_refl _)).Z (by rw [pI_I, if_neg (by omega)]; simp [plet, pcall, pck, pI_I, pI_L, pI_R, pL_I, pL_L, pL_R, pR_I, pR_L, pR_R]) (by omega) (Mm1 := M6) (fun f => ?_) (k3.trans hwr6) (by omega) ((hf3.Z.tr (frR_s (m := m) (q := q) (d := d) (by omega)).Z).tr ((frR_s (m := m) (q := q) (d := d) (by omega)).Z.tr k2.Z)) (by omega) (by omega) (by omega) hi0N ⟨by omega, by omega⟩
        show zzcall (F_Md_readStatement lwSm Mm 28) (fun _ M => rd f M) = _
        rw [hrs _ _ e2, e87', pcall]
    · right
      rw [if_neg h58] at hex hpt
      have hst := hstA none S0 Mc0 (gS.rf _) (s58_n (q := 1998) (c := nI 58) (by omega) (by rw [hl2]; omega) (by omega) (by rw [hl2]; omega) (by decide) hpt (gS.rf _))
      obtain ⟨M6, k1, k2, k3⟩ := hbad (zzsI (zzsI Mm0 35 (600 * w + m) (nI q)) 28 17 (nI i0)) i0 i0 (hm3.1.R2 (frR_s (m := m) (q := q) (d := d) (by omega))) (by simp [plet, pcall, pck, pI_I, pI_L, pI_R, pL_I, pL_L, pL_R, pR_I, pR_L, pR_R]; simpa [plet, pcall, pck, pI_I, pI_L, pI_R, pL_I, pL_L, pL_R, pR_I, pR_L, pR_R] using hm3.2.1) (by omega) (by simp [plet, pcall, pck, pI_I, pI_L, pI_R, pL_I, pL_L, pL_R, pR_I, pR_L, pR_R]) (by omega)
      refine rF_w (t2 := tl + 1) (y := i0) (p := i0) hst (hzn.tr e3) hfc0.Z e5.2.1 hi0N (Mm1 := M6) (fun f => ?_) k3 (by omega) (hf3.Z.tr ((frR_s (m := m) (q := q) (d := d) (by omega)).Z.tr k2.Z)) (by omega) (by omega) (by omega) hi0N ⟨by omega, by omega⟩
      show zzcall (F_Md_readStatement lwSm Mm 28) (fun _ M => rd f M) = _
      rw [hrs _ _ e2]
      unfold F_Md_readSet_87
      rw [if_pos rfl, show (58 : Int32) = nI 58 from rfl, hex, pcall, k1, pcall]
  · right
    have hwr : zzI (zzsI Mm1 35 (600 * w + m) (nI q)) 28 17 = nI p := by rw [pI_I, if_neg (by decide)]; exact a6
    have e1 : FD_Rd_statement (n + 2) S Mc 23 (nI d) = some (none, zznew S 13 0 9, Mc1) := by
      refine c_stmt0 hc ht (by rw [hsh]; omega) ?_ (gS.rf _)
      rw [hsh]
      exact s58_n (q := 1999) (c := 65) (by omega) (by rw [hl2]; omega) (by omega) (by rw [hl2]; omega) (by decide) a1 (gS.rf _)
    obtain ⟨M6, k1, k2, k3⟩ := hbad (zzsI Mm1 35 (600 * w + m) (nI q)) j0 p ((hm2.1.go a7).R2 (frR_o (m := m) (q := q) (d := d) (by omega) (Nat.le_refl m) (by omega))) (by rw [pI_I, if_neg (by decide)]; exact a9) a8 hwr (by omega)
    refine rF_w (t2 := tl + 1) (y := i + 1) (p := p) e1 hzn (b2.tr (a3.N (by omega)) (Nat.le_refl _)).Z a4 a5 (Mm1 := M6) (fun f => ?_) k3 (by omega) (((hf2.Z.tr (a7.R2 m d).Z).tr (frR_o (m := m) (q := q) (d := d) (by omega) (Nat.le_refl m) (by omega)).Z).tr k2.Z) (by omega) (by omega) (by omega) (by omega) ⟨by show S.2.1 + 1 ≤ _; omega, by show S.2.2 + 9 ≤ _; omega⟩
    show zzcall (F_Md_readStatement lwSm Mm 28) (fun _ M => rd f M) = _
    rw [hrs _ _ a2]
    unfold F_Md_readSet_87
    rw [if_pos rfl, m_expect_w (by rw [hwr]; exact nI_m1 (by omega)), pcall, k1, pcall]
