/-! statements that set: = E ; -/
/-- a failure within a statement: of the class's loop, of the reference's rest -/
def tF (s N w i : Nat) (S : zzS) (Mc Mm : zzM) (x : Option (Option Nat × zzS × zzM)) (y : Option (Unit × zzM)) : Prop := ∃ p S1 Mc1 Mm1 z, x = some (none, S1, Mc1) ∧ y = some ((), Mm1) ∧ gS S S1 ∧ fcN s Mc Mc1 ∧ zzI Mc1 23 2 = nI p ∧ p ≤ N ∧ zzI Mm1 28 17 = nI p ∧ frZ w Mm Mm1 ∧ i ≤ z ∧ z ≤ N ∧ S1.2.1 ≤ S.2.1 + 1 ∧ S1.2.2 ≤ S.2.2 + (z - i)
theorem r_tail {S : zzS} {Mc Mm : zzM} {T : Nat → Nat} {N w i m q tl d fu n s sh j f : Nat} {dd : Int32} (hs : s < S.2.1) (hk : zzk S s = 13) (h63 : 63 ≤ s) (hc : cQ S Mc T N i tl fu) (hm : mQ Mm T N w i (m + 1) q tl d) (hm6 : m < 600) (hqi : q ≤ i) (hsh : sh < 11) (hj : j + 3 = zzsl sh) (hj6 : zzsl sh ≤ 6) (hb0 : zzsb sh j = nI 61) (hb1 : zzsb sh (j + 1) = 69) (hb2 : zzsb sh (j + 2) = nI 59) :
    (∃ S1 Mc1 Mm1 i2 q2, cS58 (n + 1) (f + 4) S Mc 23 dd sh (some s) (nI j) = some (some s, S1, Mc1) ∧ F_Md_readSet_154 lwSm Mm 28 (nI (600 * w + m)) = some ((), Mm1) ∧ gS S S1 ∧ pfr s 5 S.2.1 Mc Mc1 ∧ cQ S1 Mc1 T N i2 tl fu ∧ mQ Mm1 T N w i2 (m + 1) q2 tl d ∧ frR w m q d Mm Mm1 ∧ (∀ a, 32 ≤ a → a ≤ 37 → a ≠ 36 → zzI Mm1 a (600 * w + m) = zzI Mm a (600 * w + m)) ∧ exQ S1 Mc1 Mm1 w q2 S.2.1 S1.2.1 (zzR Mc1 s 5) (seM Mm1 w m) ∧ i < i2 ∧ q < q2 ∧ q2 ≤ q + (i2 - i) ∧ S1.2.1 = S.2.1 + 1 ∧ S1.2.2 ≤ S.2.2 + (i2 - i))
    ∨ tF s N w i S Mc Mm (cS58 (n + 1) (f + 4) S Mc 23 dd sh (some s) (nI j)) (F_Md_readSet_154 lwSm Mm 28 (nI (600 * w + m))) := by
  have hN := hc.1.2.2.2.2.1
  have hiN := hc.2.2.1
  have hok := hm.1.ok
  have hw := hm.1.2.2.1
  have hex := m_expect hm.1 hm.2.1 (show i < 1000 by omega) hm.2.2.1 (show 61 < 1000 by omega) (by omega)
  have hpt := p_t (n := n) (s := s) (dd := dd) (v := 61) hc.1 hc.2.1 hiN (by omega)
  by_cases h61 : chT T N i = 61
  · rw [if_pos h61] at hex hpt
    have hlt := (chT_lt (T := T) (N := N) (i := i) (by omega)).1
    have hc1 : cQ S (zzsI Mc 23 2 (nI (i + 1))) T N (i + 1) tl fu := hc.N (gS.rf _) (fcN_23 (by omega)) (by simp [plet, pcall, pck, pI_I, pI_L, pI_R, pL_I, pL_L, pL_R, pR_I, pR_L, pR_R]) (by omega) (by omega) (nn_1 (N := N) (by omega) (by omega)) (by simp [plet, pcall, pck, pI_I, pI_L, pI_R, pL_I, pL_L, pL_R, pR_I, pR_L, pR_R]) (by simp [plet, pcall, pck, pI_I, pI_L, pI_R, pL_I, pL_L, pL_R, pR_I, pR_L, pR_R]; exact hc.2.2.2.2.1) hc.2.2.2.2.2.1
    have hm1 := hm.at (i + 1)
    have e154 : ∀ y Mm2, F_Md_readCodes lwSm (zzsI Mm 28 16 (nI (i + 1))) 28 1 = some (y, Mm2) → F_Md_readSet_154 lwSm Mm 28 (nI (600 * w + m)) = F_Md_expect lwSm (zzsI Mm2 36 (600 * w + m) y) 28 (nI 59) := fun y Mm2 hy => by
      have h17 : zzI (zzsI Mm 28 16 (nI (i + 1))) 28 17 = -1 := hm.2.2.1
      unfold F_Md_readSet_154
      rw [show (61 : Int32) = nI 61 from rfl, hex, pcall, h17, plet, if_pos rfl, mR_10 hm1.1.1, mr_36, hy, pcall, w_ix mn_36 hw hm6, w_k hw hm6, plet]
      exact zc_u _
    rcases P_E (n := n) (dd := dd) hs hk h63 hc1 hm1 (by omega) with ⟨S1, Mc1, Mm1, i2, q2, a1, a2, a3, a4, a5, a6, a7, a8, a9, a10, a11, a12, a13⟩ | ⟨p, Mc1, Mm1, a1, a2, a3, a4, a5, a6, a7, -⟩
    · have hi2N := a5.2.2.1
      have hm3 := a6.ord (a := 36) (k := m) (v := nI q) (by omega) hm6
      have hex2 := m_expect hm3.1 hm3.2.1 (show i2 < 1000 by omega) hm3.2.2.1 (show 59 < 1000 by omega) (by omega)
      have hpt2 := p_t (n := n) (s := s) (dd := dd) (v := 59) a5.1 a5.2.1 hi2N (by omega)
      have hf3 : frR w m q d Mm (zzsI Mm1 36 (600 * w + m) (nI q)) := ((frR_s (by omega)).tr (a7.R2 m d) (Nat.le_refl _) (Nat.le_refl _) (Nat.le_refl _)).tr (frR_o (by omega) (Nat.le_refl m) hm6) (Nat.le_refl _) (Nat.le_refl _) (Nat.le_refl _)
      rw [e154 _ _ a2]
      by_cases h59 : chT T N i2 = 59
      · left
        rw [if_pos h59] at hex2 hpt2
        have hlt2 := (chT_lt (T := T) (N := N) (i := i2) (by omega)).1
        refine ⟨S1, zzsI Mc1 23 2 (nI (i2 + 1)), zzsI (zzsI Mm1 36 (600 * w + m) (nI q)) 28 16 (nI (i2 + 1)), i2 + 1, q2, ?_, hex2, a3, ?_, ?_, hm3.at (i2 + 1), hf3.tr (frR_s (by omega)) (Nat.le_refl _) (Nat.le_refl _) (Nat.le_refl _), fun a h1 h2 h3 => ?_, ?_, by omega, by omega, by omega, a12, by omega⟩
        · refine s58_y (c := nI 61) hc1.1.1 hsh (by omega) (by omega) hj6 hb0 hpt (gS.rf _) ?_ a3
          refine s58_y (c := 69) a5.1.1 hsh (by omega) (by omega) hj6 hb1 a1 a3 ?_ (gS.rf _)
          refine s58_y (c := nI 59) a5.1.1 hsh (by omega) (by omega) hj6 hb2 hpt2 (gS.rf _) ?_ (gS.rf _)
          exact s58_end hsh (by omega) (by omega)
        · exact ((fcN_23 (n0 := S.2.1) (by omega)).p.tr a4 (Nat.le_refl _)).tr (fcN_23 (n0 := S.2.1) (by omega)).p (Nat.le_refl _)
        · exact a5.N (gS.rf _) (fcN_23 (by omega)) (by simp [plet, pcall, pck, pI_I, pI_L, pI_R, pL_I, pL_L, pL_R, pR_I, pR_L, pR_R]) (by omega) (by omega) (nn_1 (N := N) (by omega) (by omega)) (by simp [plet, pcall, pck, pI_I, pI_L, pI_R, pL_I, pL_L, pL_R, pR_I, pR_L, pR_R]) (by simp [plet, pcall, pck, pI_I, pI_L, pI_R, pL_I, pL_L, pL_R, pR_I, pR_L, pR_R]; exact a5.2.2.2.2.1) a5.2.2.2.2.2.1
        · simp only [plet, pcall, pck, pI_I, pI_L, pI_R, pL_I, pL_L, pL_R, pR_I, pR_L, pR_R]
          rw [if_neg (by omega), if_neg (by omega), (a7.R2 (m + 1) d).1 a _ h1 h2 (by omega), pI_I, if_neg (by omega)]
        · have e6 : seM (zzsI (zzsI Mm1 36 (600 * w + m) (nI q)) 28 16 (nI (i2 + 1))) w m = nI q := by simp [plet, pcall, pck, pI_I, pI_L, pI_R, pL_I, pL_L, pL_R, pR_I, pR_L, pR_R]
          rw [e6]
          refine exQ.go (S := S1) (Mc := Mc1) (Mm := Mm1) (i := 0) (j := 0) a8 ⟨Nat.le_refl _, fun a h1 h2 => ⟨rfl, fun k => ?_, fun k => rfl⟩⟩ ⟨fun a k _ _ _ h => by omega, fun a k h1 _ => ?_⟩ (Nat.le_refl _)
          · rw [pI_I, if_neg (by omega)]
          · simp only [plet, pcall, pck, pI_I, pI_L, pI_R, pL_I, pL_L, pL_R, pR_I, pR_L, pR_R]
            rw [if_neg (by omega), if_neg (by omega)]
      · right
        rw [if_neg h59] at hex2 hpt2
        refine ⟨i2, S1, Mc1, zzsI (zzsI Mm1 36 (600 * w + m) (nI q)) 28 17 (nI i2), i2, ?_, hex2, a3, ((fcN_23 (n0 := S.2.1) (by omega)).p.tr a4 (Nat.le_refl _)).N (by omega), a5.2.1, hi2N, by simp [plet, pcall, pck, pI_I, pI_L, pI_R, pL_I, pL_L, pL_R, pR_I, pR_L, pR_R], hf3.Z.tr (frR_s (m := m) (q := q) (d := d) (by omega)).Z, by omega, hi2N, by omega, by omega⟩
        refine s58_y (c := nI 61) hc1.1.1 hsh (by omega) (by omega) hj6 hb0 hpt (gS.rf _) ?_ a3
        refine s58_y (c := 69) a5.1.1 hsh (by omega) (by omega) hj6 hb1 a1 a3 ?_ (gS.rf _)
        exact s58_n (c := nI 59) hsh (by omega) (by omega) hj6 hb2 hpt2 (gS.rf _)
    · right
      rw [e154 _ _ a2, m_expect_w (by rw [pI_I, if_neg (by decide), a6]; exact nI_m1 (by omega))]
      refine ⟨p, S, Mc1, zzsI Mm1 36 (600 * w + m) (nI q), i, ?_, rfl, gS.rf _, ((fcN_23 (n0 := S.2.1) (by omega)).p.tr a3 (Nat.le_refl _)).N (by omega), a4, a5, by rw [pI_I, if_neg (by decide)]; exact a6, (((frR_s (m := m) (q := q) (d := d) (by omega)).tr (a7.R2 m d) (Nat.le_refl _) (Nat.le_refl _) (Nat.le_refl _)).tr (frR_o (by omega) (Nat.le_refl m) hm6) (Nat.le_refl _) (Nat.le_refl _) (Nat.le_refl _)).Z, Nat.le_refl _, hiN, by omega, by omega⟩
      refine s58_y (c := nI 61) hc1.1.1 hsh (by omega) (by omega) hj6 hb0 hpt (gS.rf _) ?_ (gS.rf _)
      exact s58_n (c := 69) hsh (by omega) (by omega) hj6 hb1 a1 (gS.rf _)
  · right
    rw [if_neg h61] at hex hpt
    refine ⟨i, S, Mc, zzsI Mm 28 17 (nI i), i, s58_n (c := nI 61) hsh (by omega) (by omega) hj6 hb0 hpt (gS.rf _), ?_, gS.rf _, fcN.rf _ _, hc.2.1, hiN, by simp [plet, pcall, pck, pI_I, pI_L, pI_R, pL_I, pL_L, pL_R, pR_I, pR_L, pR_R], (frR_s (m := m) (q := q) (d := d) (by omega)).Z, Nat.le_refl _, hiN, by omega, by omega⟩
    have h17 : zzI (zzsI Mm 28 17 (nI i)) 28 17 = nI i := by simp [plet, pcall, pck, pI_I, pI_L, pI_R, pL_I, pL_L, pL_R, pR_I, pR_L, pR_R]
    unfold F_Md_readSet_154
    rw [show (61 : Int32) = nI 61 from rfl, hex, pcall, h17, plet, if_neg (nI_m1 (by omega))]
theorem tF.r {S S0 : zzS} {Mc Mm Mc0 Mm0 : zzM} {N w i i0 tl fu n sh s c0 : Nat} {y : Option (Unit × zzM)} {x : Option (Option Nat × zzS × zzM)} {G : Nat → Option (Int32 × zzM)} (H : tF s N w i S Mc Mm x y) (hs : s = S0.2.1) (g : gS S0 S) (hf : fcN S0.2.1 Mc0 Mc) (hz : frZ w Mm0 Mm) (hG : ∀ f, G f = zzcall y (fun _ M => rd f M)) (hi : i0 ≤ i) (ht : tl < 100) (hN : N ≤ 400) (hg1 : S.2.1 + 1 ≤ S0.2.1 + 5) (hg2 : S.2.2 ≤ S0.2.2 + 13 + (i - i0)) : rF S0 N w i0 tl fu 0 Mc0 Mm0 x G := by
  obtain ⟨p, S1, Mc1, Mm1, z, h1, h2, h3, h4, h5, h6, h7, h8, h9, h10, h11, h12⟩ := H
  subst hs
  exact rF_w (t2 := tl + 1) (y := z) (p := p) h1 (g.tr h3) (hf.tr h4 (Nat.le_refl _)).Z h5 h6 (fun f => by rw [hG, h2, pcall]) h7 (by omega) (hz.tr h8) (by omega) (by omega) (by omega) h10 ⟨by omega, by omega⟩
/-- the facts with which every statement begins -/
theorem m_head {Mm : zzM} {T : Nat → Nat} {N w i m q tl d : Nat} {kd : Int32} (hm : mQ Mm T N w i m q tl d) (hm6 : m < 600) : mQ (moM (zzsI Mm 28 20 (nI (tl + 1))) w m kd (nI i)) T N w i (m + 1) q (tl + 1) d ∧ frR w m q d Mm (moM (zzsI Mm 28 20 (nI (tl + 1))) w m kd (nI i)) ∧ F_Md_order lwSm (zzsI Mm 28 20 (nI (tl + 1))) 28 kd (nI i) = some (nI m, moM (zzsI Mm 28 20 (nI (tl + 1))) w m kd (nI i)) := ⟨(hm.tl (tl + 1)).order hm6, (frR_s (by omega)).tr (moM_f hm6) (Nat.le_refl _) (Nat.le_refl _) (Nat.le_refl _), m_order (hm.tl (tl + 1)).1 (hm.tl (tl + 1)).2.2.2.1 hm6⟩
theorem r_var {S : zzS} {Mc Mm : zzM} {T : Nat → Nat} {N w i m q tl d fu n : Nat} (hc : cQ S Mc T N i tl fu) (hm : mQ Mm T N w i m q tl d) (ht : tl < 100) (hmi : m ≤ i) (hqi : q ≤ i) (hx : 97 ≤ chT T N i ∧ chT T N i ≤ 122) : sO S T N w i m q tl d fu Mc Mm (FD_Rd_statement (n + 2) S Mc 23 (nI d)) (fun f => zzcall (F_Md_readStatement lwSm Mm 28) (fun _ M => rd f M)) ∨ rF S N w i tl fu 0 Mc Mm (FD_Rd_statement (n + 2) S Mc 23 (nI d)) (fun f => zzcall (F_Md_readStatement lwSm Mm 28) (fun _ M => rd f M)) := by
  have hN := hc.1.2.2.2.2.1
  have hiN := hc.2.2.1
  have hok := hm.1.ok
  have hw := hm.1.2.2.1
  have hS := hc.1.1
  have hS63 := hS.2.2.2
  have hsh : shN (chT T N i) = 0 := if_pos hx
  have hkd : kdN (chT T N i) = 97 := if_pos hx
  have hop : opN (chT T N i) = nI (chT T N i - 97) := if_pos hx
  have hlt := chT_lt (T := T) (N := N) (i := i) (by omega)
  have ec : chM T N i = nI (chT T N i) := by unfold chM; rw [if_pos hlt.1, hlt.2]
  have e97 : nI (chT T N i) - (97 : Int32) = nI (chT T N i - 97) := psub (b := 97) hx.1
  obtain ⟨b1, b2, b3, b4, b5, b6⟩ := cbg_f (kd := kdN (chT T N i)) (op := opN (chT T N i)) hc ht (by omega) (by omega)
  obtain ⟨h1, h2, h3⟩ := m_head (kd := 1) hm (show m < 600 by omega)
  have hm2 := (h1.at (i + 1)).ord (a := 34) (k := m) (v := nI (chT T N i - 97)) (by omega) (by omega)
  have hf2 := (h2.tr (frR_s (j := 16) (v := nI (i + 1)) (by omega)) (Nat.le_refl _) (Nat.le_refl _) (Nat.le_refl _)).tr (frR_o (a := 34) (k0 := m) (v := nI (chT T N i - 97)) (by omega) (Nat.le_refl m) (by omega)) (Nat.le_refl _) (Nat.le_refl _) (Nat.le_refl _)
  obtain ⟨v1, v2, v3, v4, v5, v6⟩ := moM_v (M := zzsI Mm 28 20 (nI (tl + 1))) (w := w) (m := m) (kd := 1) (wh := nI i)
  have hrs : F_Md_readStatement lwSm Mm 28 = F_Md_readSet_154 lwSm (zzsI (zzsI (moM (zzsI Mm 28 20 (nI (tl + 1))) w m 1 (nI i)) 28 16 (nI (i + 1))) 34 (600 * w + m) (nI (chT T N i - 97))) 28 (nI (600 * w + m)) := by
    have h20 : mQ (zzsI Mm 28 20 (nI (tl + 1))) T N w i m q (tl + 1) d := hm.tl (tl + 1)
    rw [m_rs hm (by omega) ht, m_isVar_y hok _ _ hx, pcall, if_neg (by decide), zc_u]
    unfold F_Md_readSet F_Md_readSet_27 F_Md_readSet_87
    rw [m_peek h20.1 h20.2.1 (by omega), pcall, if_neg (show ¬ chM T N i = (64 : Int32) from chM_ne hok (v := 64) (by omega) (by omega) (by omega)), if_neg (show ¬ chM T N i = (39 : Int32) from chM_ne hok (v := 39) (by omega) (by omega) (by omega)), h3, pcall, h1.1.2.1, plet, plet, plet, e600, h1.2.1, plet, plet, plet, ← nI_succ, m_isVar_y hok _ _ hx, pcall, if_neg (by decide), mR_8 (h1.at (i + 1)).1.1, mr_34, ec, e97, plet, w_ix mn_34 hw (by omega), w_k hw (by omega), plet, if_neg (show ¬ nI (chT T N i) = (64 : Int32) from fun e => by have := (peq (a := chT T N i) (b := 64) (by omega) (by omega)).mp e; omega)]
  have hzn := gS_new S 13 0 9
  have hzk : zzk (zznew S 13 0 9) S.2.1 = 13 := by unfold zzk zznew; simp
  have hzl : S.2.1 < (zznew S 13 0 9).2.1 := by show S.2.1 < S.2.1 + 1; omega
  rcases r_tail (n := n) (sh := 0) (j := 0) (f := 1996) (dd := nI d) hzl hzk (by omega) b1 hm2 (by omega) (by omega) (by omega) (by decide) (by decide) (by decide) (by decide) (by decide) with ⟨S1, Mc1, Mm1, i2, q2, a1, a2, a3, a4, a5, a6, a7, a8, a9, a10, a11, a12, a13, a14⟩ | H
  · left
    have hgr : grw S S1 tl (tl + 1) i i2 0 := ⟨by rw [a13]; show S.2.1 + 1 + 1 ≤ _; omega, by have : S1.2.2 ≤ S.2.2 + 9 + (i2 - (i + 1)) := a14; omega⟩
    have hI : ∀ k, zzI Mc1 S.2.1 k = zzI (cbg S Mc (kdN (chT T N i)) (opN (chT T N i)) i tl (lnT (fun i => nI (T i)) i)) S.2.1 k := fun k => a4.1 S.2.1 k hzl (by omega) (by omega)
    refine ⟨S1, Mc1, Mm1, i2, m + 1, q2, tl + 1, 0, c_stmt0 hc ht (by rw [hsh]; omega) (by rw [hsh]; exact a1) a3, hzn.tr a3, b2.tr (a4.N (by omega)) (Nat.le_refl _), a5, ?_, fun f => ?_, a6, hf2.tr a7 (Nat.le_refl _) (Nat.le_refl _) (Nat.le_refl _), ⟨by omega, by omega, by omega, i, ?_, ?_, Or.inr (Or.inl ⟨?_, ?_, ⟨chT T N i - 97, by omega, ?_, ?_⟩, ?_, rfl⟩)⟩, by omega, by omega, by omega, by omega, by omega, hgr, by omega⟩
    · rw [a4.2.1 S.2.1 8 hzl (by omega)]; exact b6 8
    · show zzcall (F_Md_readStatement lwSm Mm 28) (fun _ M => rd f M) = _
      rw [hrs, a2, pcall]
    · obtain ⟨s1, s2, s3, s4, s5, s6⟩ := b5
      exact ⟨s1, (a3.k s2 s3).1, (a3.k s2 s3).2, s4, (hI 1).trans s5, (hI 2).trans s6⟩
    · rw [plM, a8 33 (by omega) (by omega) (by omega)]
      simp only [plet, pcall, pck, pI_I, pI_L, pI_R, pL_I, pL_L, pL_R, pR_I, pR_L, pR_R]
      rw [if_neg (by decide), if_neg (by decide)]
      exact v2
    · rw [hI 0, b3, hkd]
    · rw [odM, a8 32 (by omega) (by omega) (by omega)]
      simp only [plet, pcall, pck, pI_I, pI_L, pI_R, pL_I, pL_L, pL_R, pR_I, pR_L, pR_R]
      rw [if_neg (by decide), if_neg (by decide)]
      exact v1
    · rw [hI 3, b4, hop]
    · rw [gvM, a8 34 (by omega) (by omega) (by omega)]
      simp [plet, pcall, pck, pI_I, pI_L, pI_R, pL_I, pL_L, pL_R, pR_I, pR_L, pR_R]
    · exact a9
  · right
    exact (show tF S.2.1 N w (i + 1) (zznew S 13 0 9) _ _ (FD_Rd_statement (n + 2) S Mc 23 (nI d)) _ from by
      obtain ⟨p, S1, Mc1, Mm1, z, y1, y2, y3, y4⟩ := H
      exact ⟨p, S1, Mc1, Mm1, z, c_stmt0 hc ht (by rw [hsh]; omega) (by rw [hsh]; exact y1) y3, y2, y3, y4⟩).r (n := 0) (sh := 0) (c0 := 0) rfl hzn b2 hf2.Z (fun f => by rw [hrs]) (by omega) ht hN (by show S.2.1 + 1 + 1 ≤ _; omega) (by show S.2.2 + 9 ≤ _; omega)
