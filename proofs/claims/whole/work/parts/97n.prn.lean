/-! closings read -/
theorem r_tryS {S : zzS} {Mc Mm : zzM} {T : Nat → Nat} {N w i m q tl d fu n : Nat} (hB : d < 2 → rBk T N w fu n (d + 1)) (hc : cQ S Mc T N i tl fu) (hm : mQ Mm T N w i m q tl d) (ht : tl < 100) (hmi : m ≤ i) (hqi : q ≤ i) (hd : d ≤ 2) (hx : chT T N i = 126) : sO S T N w i m q tl d fu Mc Mm (FD_Rd_statement (n + 3) S Mc 23 (nI d)) (fun f => zzcall (F_Md_readStatement lwSm Mm 28) (fun _ M => rd f M)) ∨ rF S N w i tl fu 0 Mc Mm (FD_Rd_statement (n + 3) S Mc 23 (nI d)) (fun f => zzcall (F_Md_readStatement lwSm Mm 28) (fun _ M => rd f M)) := by
  have hN := hc.1.2.2.2.2.1
  have hiN := hc.2.2.1
  have hok := hm.1.ok
  have hw := hm.1.2.2.1
  have hS := hc.1.1
  have hS63 := hS.2.2.2
  have hsh : shN (chT T N i) = 8 := by rw [hx]; decide
  have hkd : kdN (chT T N i) = 126 := by rw [hx]; decide
  have hlt := chT_lt (T := T) (N := N) (i := i) (by omega)
  have ec : chM T N i = (126 : Int32) := chM_is hok (v := 126) (by omega) (by omega) hx
  obtain ⟨b1, b2, b3, b4, b5, b6⟩ := cbg_f (kd := kdN (chT T N i)) (op := opN (chT T N i)) hc ht (by omega) (by omega)
  obtain ⟨h1, h2, h3⟩ := m_head (kd := 9) hm (show m < 600 by omega)
  obtain ⟨v1, v2, v3, v4, v5, v6⟩ := moM_v (M := zzsI Mm 28 20 (nI (tl + 1))) (w := w) (m := m) (kd := 9) (wh := nI i)
  have hm3 := h1.at (i + 1)
  have hf3 := h2.tr (frR_s (j := 16) (v := nI (i + 1)) (by omega)) (Nat.le_refl _) (Nat.le_refl _) (Nat.le_refl _)
  have hso : F_Md_simpleOf lwSm (zzsI Mm 28 20 (nI (tl + 1))) (chM T N i) = some (0, zzsI Mm 28 20 (nI (tl + 1))) := by
    rw [m_simpleOf hok hx]; rfl
  have hrs : F_Md_readStatement lwSm Mm 28 = F_Md_open lwSm (zzsI (moM (zzsI Mm 28 20 (nI (tl + 1))) w m 9 (nI i)) 28 16 (nI (i + 1))) 28 5 (nI 123) (nI m) := by
    rw [m_rs hm (by omega) ht, m_isVar_n hok _ _ (by unfold isV; omega), pcall, if_pos rfl, if_neg (by rw [ec]; decide), if_neg (by rw [ec]; decide), hso, pcall, if_pos rfl, if_neg (by rw [ec]; decide), if_neg (by rw [ec]; decide), if_neg (by rw [ec]; decide), if_pos ec, h3, pcall, h1.2.1, plet, plet, plet, ← nI_succ]
    exact zc_u _
  have hzn := gS_new S 13 0 9
  have hzk : zzk (zznew S 13 0 9) S.2.1 = 13 := by unfold zzk zznew; simp
  have hzl : S.2.1 < (zznew S 13 0 9).2.1 := by show S.2.1 < S.2.1 + 1; omega
  have hl8 : zzsl 8 = 2 := by decide
  have hz1 : (zznew S 13 0 9).2.1 = S.2.1 + 1 := rfl
  have hz2 : (zznew S 13 0 9).2.2 = S.2.2 + 9 := rfl
  rcases r_encl (n := n) (br := 123) (ec := 125) (kd := 5) (ov := nI m) hB b1 hm3 (by omega) (by omega) hd (Or.inr ⟨rfl, rfl, by decide⟩) with ⟨S1, Mc1, Mm1, i2, m2, q2, t2, k, a1, a2, a3, a4, a5, a6, a7, a8, a9, a10, a11, a12, a13, a14, a15, a16, a17, a18, a19⟩ | H
  · have hi2N := a4.2.2.1
    have hs1 := a2.k hzl hzk
    have hb1 : S.2.1 + 1 < S1.2.1 ∧ zzk S1 (S.2.1 + 1) = 12 := by
      have e : 2 - d = (1 - d) + 1 := by omega
      rw [e] at a11
      exact ⟨a11.2.1, a11.2.2.1.2.1⟩
    have hstB : ∀ (r : Option Nat) (S9 : zzS) (M9 : zzM), gS S1 S9 → cS58 (n + 2) 1999 S1 (zzsR Mc1 S.2.1 6 (some (S.2.1 + 1))) 23 (nI d) 8 (some S.2.1) (nI 1) = some (r, S9, M9) → FD_Rd_statement (n + 3) S Mc 23 (nI d) = some (r, S9, M9) := fun r S9 M9 g9 h9 => by
      refine c_stmt0 hc ht (by rw [hsh]; omega) ?_ (a2.tr g9)
      rw [hsh]
      exact s58_y (q := 1999) (c := 66) a4.1.1 (by omega) (by rw [hl8]; omega) (by omega) (by rw [hl8]; omega) (by decide) (p_blk (Or.inl ⟨rfl, rfl⟩) hs1.1 hs1.2 hb1.1 hb1.2 a2 a1) a2 h9 g9
    have hp : plM Mm1 w m = nI i := by
      rw [plM, a7.1 33 _ (by omega) (by omega) (by omega), pI_I, if_neg (by decide)]
      exact v2
    have ho : odM Mm1 w m = 9 := by
      rw [odM, a7.1 32 _ (by omega) (by omega) (by omega), pI_I, if_neg (by decide)]
      exact v1
    obtain ⟨c1, c2⟩ := a6.cl
    have hm26 : m2 < 600 := (a11.le).2.1
    have hck : cQ S1 (zzsR Mc1 S.2.1 6 (some (S.2.1 + 1))) T N (i2 + 1) t2 fu := a4.w (by omega)
    have hf5 := (hf3.tr a7 (by omega) (by omega) (Nat.le_refl _)).tr c2 (by omega) (by omega) (Nat.le_refl _)
    have c3 := c1.ord (a := 37) (k := m) (v := nI m2) (by omega) (by omega)
    have c4 := c3.order (kd := 10) (wh := nI i) hm26
    obtain ⟨u1, u2, u3, u4, u5, u6⟩ := moM_v (M := zzsI (mcl Mm1 i2 d) 37 (600 * w + m) (nI m2)) (w := w) (m := m2) (kd := 10) (wh := nI i)
    have hf6 := (hf5.tr (frR_o (a := 37) (k0 := m) (v := nI m2) (by omega) (Nat.le_refl m) (by omega)) (Nat.le_refl _) (by omega) (Nat.le_refl _)).tr (moM_f (kd := 10) (wh := nI i) hm26) (by omega) (Nat.le_refl _) (Nat.le_refl _)
    have hcl : F_Md_close lwSm Mm1 28 = F_Md_open lwSm (moM (zzsI (mcl Mm1 i2 d) 37 (600 * w + m) (nI m2)) w m2 10 (nI i)) 28 6 (nI 123) (nI m) := by
      rw [m_close a6 a10 a8 a9 (by omega) hp]
      unfold mcK
      rw [if_neg (by decide), if_neg (by decide), if_neg (by decide), if_neg (by decide), if_pos rfl, m_aim c1.1 (show m < 600 by omega), pcall, c1.2.2.2.1, m_order c3.1 c3.2.2.2.1 hm26, pcall]
      exact zc_u _
    have hgr1 := a18.1
    have hgr2 := a18.2
    have hfc1 : fcN S.2.1 Mc (zzsR Mc1 S.2.1 6 (some (S.2.1 + 1))) := (b2.tr a3 (by omega)).tr (fcN_r (Nat.le_refl _)) (Nat.le_refl _)
    have hor1 : ∀ a j, 32 ≤ a → a ≤ 37 → j ≠ m2 → (a ≠ 37 ∨ j ≠ m) → zzI (moM (zzsI (mcl Mm1 i2 d) 37 (600 * w + m) (nI m2)) w m2 10 (nI i)) a (600 * w + j) = zzI Mm1 a (600 * w + j) := fun a j g1 g2 g3 g4 => by
      rw [u6 a j g1 g2 g3, pI_I]
      by_cases h37 : a = 37
      · rw [if_pos h37, if_neg (by omega)]; exact mcl_o (by omega)
      · rw [if_neg h37]; exact mcl_o (by omega)
    rcases r_encl (n := n) (br := 123) (ec := 125) (kd := 6) (ov := nI m) hB hck c4 (by omega) (by omega) hd (Or.inr ⟨rfl, rfl, by decide⟩) with ⟨S2, Mc2, Mm2, i3, m3, q3, t3, k3, d1, d2, d3, d4, d5, d6, d7, d8, d9, d10, d11, d12, d13, d14, d15, d16, d17, d18, d19⟩ | H
    · left
      have hs2 := d2.k hs1.1 hs1.2
      have hb2 : S1.2.1 < S2.2.1 ∧ zzk S2 S1.2.1 = 12 := by
        have e : 2 - d = (1 - d) + 1 := by omega
        rw [e] at d11
        exact ⟨d11.2.1, d11.2.2.1.2.1⟩
      have hst := hstB (some S.2.1) S2 (zzsR Mc2 S.2.1 7 (some S1.2.1)) d2 (s58_y (q := 1998) (c := 67) d4.1.1 (by omega) (by rw [hl8]; omega) (by omega) (by rw [hl8]; omega) (by decide) (p_blk (Or.inr ⟨rfl, rfl⟩) hs2.1 hs2.2 hb2.1 hb2.2 d2 d1) d2 (s58_end (q := 1997) (by omega) (by rw [hl8]) (by omega)) (gS.rf _))
      obtain ⟨w1, w2⟩ := d6.cl
      have hm36 : m3 < 600 := (d11.le).2.1
      have hpm : plM Mm2 w m = nI i := by
        rw [plM, d7.1 33 _ (by omega) (by omega) (by omega), hor1 33 m (by omega) (by omega) (by omega) (by omega)]
        exact hp
      have hcl2 : F_Md_close lwSm Mm2 28 = some ((), moM (mcl Mm2 i3 d) w m3 11 (nI i)) := by
        rw [m_close d6 d10 d8 d9 (by omega) hpm]
        unfold mcK
        rw [if_neg (by decide), if_neg (by decide), if_neg (by decide), if_neg (by decide), if_neg (by decide), if_pos rfl, m_order w1.1 w1.2.2.2.1 hm36, pcall]
      obtain ⟨y1, y2, y3, y4, y5, y6⟩ := moM_v (M := mcl Mm2 i3 d) (w := w) (m := m3) (kd := 11) (wh := nI i)
      have hI : ∀ j, zzI (zzsR Mc2 S.2.1 7 (some S1.2.1)) S.2.1 j = zzI (cbg S Mc (kdN (chT T N i)) (opN (chT T N i)) i tl (lnT (fun i => nI (T i)) i)) S.2.1 j := fun j => by
        show zzI Mc2 S.2.1 j = _
        rw [d3.1 S.2.1 j hs1.1 (by omega) (by omega)]
        exact a3.1 S.2.1 j hzl (by omega) (by omega)
      have hR : ∀ j, j ≠ 7 → zzR (zzsR Mc2 S.2.1 7 (some S1.2.1)) S.2.1 j = zzR (zzsR Mc1 S.2.1 6 (some (S.2.1 + 1))) S.2.1 j := fun j hj => by
        rw [pR_R, if_pos rfl, if_neg hj]
        exact d3.2.1 S.2.1 j hs1.1
      have hor2 : ∀ a j, 32 ≤ a → a ≤ 37 → j < m2 + 1 → zzI (moM (mcl Mm2 i3 d) w m3 11 (nI i)) a (600 * w + j) = zzI (moM (zzsI (mcl Mm1 i2 d) 37 (600 * w + m) (nI m2)) w m2 10 (nI i)) a (600 * w + j) := fun a j g1 g2 g3 => by
        rw [y6 a j g1 g2 (by omega), mcl_o (by omega)]
        exact d7.1 a _ g1 g2 (by omega)
      have hco : ∀ a j, a = 39 ∨ a = 40 → j < q2 → zzI (moM (mcl Mm2 i3 d) w m3 11 (nI i)) a (1000 * w + j) = zzI Mm1 a (1000 * w + j) := fun a j g1 g2 => by
        rw [moM_c g1, mcl_o (by omega), d7.2.1 a _ g1 (by omega), moM_c g1, pI_I, if_neg (by omega), mcl_o (by omega)]
      have hi3N := d4.2.2.1
      have hg1 := d18.1
      have hg2 := d18.2
      refine ⟨S2, _, _, i3 + 1, m3 + 1, q3, t3, k3 + k, hst, hzn.tr (a2.tr d2), (hfc1.tr d3 (by have := a2.1; omega)).tr (fcN_r (Nat.le_refl _)) (Nat.le_refl _), d4.w (by omega), ?_, fun f => ?_, w1.order hm36, ((hf6.tr d7 (by omega) (by omega) (Nat.le_refl _)).tr w2 (by omega) (by omega) (Nat.le_refl _)).tr (moM_f hm36) (by omega) (by omega) (Nat.le_refl _), ⟨by omega, by omega, by omega, i, ?_, ?_, Or.inr (Or.inr (Or.inr (Or.inr (Or.inr (Or.inr (Or.inr (Or.inr (Or.inl ⟨?_, ?_, S.2.1 + 1, S1.2.1, m2, m3, ?_, ?_, ?_, ?_, ?_, ?_, ?_, by omega, y1, rfl⟩))))))))⟩, by omega, by omega, by omega, by omega, by omega, ⟨by omega, by omega⟩, by omega⟩
      · rw [hR 8 (by omega), pR_R, if_pos rfl, if_neg (by decide), a3.2.1 S.2.1 8 hzl]
        exact b6 8
      · show zzcall (F_Md_readStatement lwSm Mm 28) (fun _ M => rd (f + (k3 + k)) M) = _
        rw [hrs, show f + (k3 + k) = f + k3 + k by omega]
        refine (a5 (f + k3)).trans ?_
        rw [hcl]
        refine (d5 f).trans ?_
        rw [hcl2, pcall]
      · obtain ⟨s1, s2, s3, s4, s5, s6⟩ := b5
        exact ⟨s1, ((a2.tr d2).k s2 s3).1, ((a2.tr d2).k s2 s3).2, s4, (hI 1).trans s5, (hI 2).trans s6⟩
      · rw [plM, hor2 33 m (by omega) (by omega) (by omega), hor1 33 m (by omega) (by omega) (by omega) (by omega)]; exact hp
      · rw [hI 0, b3, hkd]
      · rw [odM, hor2 32 m (by omega) (by omega) (by omega), hor1 32 m (by omega) (by omega) (by omega) (by omega)]; exact ho
      · rw [hR 6 (by omega)]; simp [plet, pcall, pck, pI_I, pI_L, pI_R, pL_I, pL_L, pL_R, pR_I, pR_L, pR_R]
      · simp [plet, pcall, pck, pI_I, pI_L, pI_R, pL_I, pL_L, pL_R, pR_I, pR_L, pR_R]
      · have ga : agC (S.2.1 + 1) S1.2.1 S1 S2 Mc1 (zzsR Mc2 S.2.1 7 (some S1.2.1)) := ⟨d2.1, fun a g1 g2 => ⟨d2.2.2 a g2, fun j => d3.1 a j g2 (by omega) (by omega), fun j => by rw [pR_R, if_neg (by omega), d3.2.1 a j g2, pR_R, if_neg (by omega)]⟩⟩
        exact (qB.go (S := S1) (Mc := Mc1) (Mm := Mm1) (show q2 ≤ q3 by omega) ga ⟨fun a j g1 g2 g3 g4 => (hor2 a j g1 g2 (by omega)).trans (hor1 a j g1 g2 (by omega) (by omega)), fun a j g1 g2 => hco a j g1 g2⟩ a11).wd (Nat.le_refl _) (by omega)
      · rw [tgM, hor2 37 m (by omega) (by omega) (by omega), u6 37 m (by omega) (by omega) (by omega), pI_I, if_pos rfl, if_pos rfl]
      · rw [odM, hor2 32 m2 (by omega) (by omega) (by omega)]; exact u1
      · rw [plM, hor2 33 m2 (by omega) (by omega) (by omega)]; exact u2
      · refine (qB.go (S := S2) (Mc := Mc2) (Mm := Mm2) (Nat.le_refl q3) (agC_s (by omega)) ⟨fun a j g1 g2 g3 g4 => ?_, fun a j g1 g2 => ?_⟩ d11).wd (by omega) (Nat.le_refl _)
        · rw [y6 a j g1 g2 (by omega), mcl_o (by omega)]
        · rw [moM_c g1, mcl_o (by omega)]
    · right
      refine H.up (S := S) (k := 7) (s := S.2.1) (k0 := k) (tl := tl) (hzn.tr a2) hfc1.Z hf6.Z (Nat.le_refl _) (by omega) (fun S9 Mc9 g9 z9 => ?_) (fun f => ?_) (by omega) (by omega) (by omega) (by omega) (by omega)
      · have hs9 := g9.k hs1.1 hs1.2
        exact hstB none S9 _ g9 (s58_n (q := 1998) (c := 67) (by omega) (by rw [hl8]; omega) (by omega) (by rw [hl8]; omega) (by decide) (p_blk_n (Or.inr ⟨rfl, rfl⟩) hs9.1 hs9.2 g9 z9) g9)
      · show zzcall (F_Md_readStatement lwSm Mm 28) (fun _ M => rd (f + k) M) = _
        rw [hrs]
        refine (a5 f).trans ?_
        rw [hcl]
  · right
    refine H.up (S := S) (k := 6) (s := S.2.1) (k0 := 0) (tl := tl) hzn b2.Z hf3.Z (Nat.le_refl _) (by omega) (fun S1 Mc1 g1 z1 => ?_) (fun f => ?_) (by omega) (by omega) (by omega) (by omega) (by omega)
    · refine c_stmt0 hc ht (by rw [hsh]; omega) ?_ g1
      rw [hsh]
      have hs1 := g1.k hzl hzk
      exact s58_n (q := 1999) (c := 66) (by omega) (by rw [hl8]; omega) (by omega) (by rw [hl8]; omega) (by decide) (p_blk_n (Or.inl ⟨rfl, rfl⟩) hs1.1 hs1.2 g1 z1) g1
    · show zzcall (F_Md_readStatement lwSm Mm 28) (fun _ M => rd (f + 0) M) = _
      rw [hrs]
      rfl
/-- every statement but a function's at the top -/
theorem r_stmt {S : zzS} {Mc Mm : zzM} {T : Nat → Nat} {N w i m q tl d fu n : Nat} (hB : d < 2 → rBk T N w fu n (d + 1)) (hc : cQ S Mc T N i tl fu) (hm : mQ Mm T N w i m q tl d) (hmi : m ≤ i) (hqi : q ≤ i) (hd : d ≤ 2) (htop : chT T N i ≠ 58 ∨ 1 ≤ d) : sO S T N w i m q tl d fu Mc Mm (FD_Rd_statement (n + 3) S Mc 23 (nI d)) (fun f => zzcall (F_Md_readStatement lwSm Mm 28) (fun _ M => rd f M)) ∨ rF S N w i tl fu 0 Mc Mm (FD_Rd_statement (n + 3) S Mc 23 (nI d)) (fun f => zzcall (F_Md_readStatement lwSm Mm 28) (fun _ M => rd f M)) := by
  have htl := hc.2.2.2.2.2.1
  by_cases h100 : tl = 100
  · exact Or.inr (r_bad (n := n + 1) hc hm (Or.inl h100))
  · have ht : tl < 100 := by omega
    by_cases hv : 97 ≤ chT T N i ∧ chT T N i ≤ 122
    · exact r_var (n := n + 1) hc hm ht hmi hqi hv
    · by_cases hf : 65 ≤ chT T N i ∧ chT T N i ≤ 90
      · exact r_call (n := n + 1) hc hm ht hmi hqi hf (by omega)
      · by_cases h64 : chT T N i = 64
        · exact r_fld (n := n + 1) hc hm ht hmi hqi h64
        · by_cases h39 : chT T N i = 39
          · exact r_plc (n := n + 1) hc hm ht hmi hqi h39
          · by_cases h63 : chT T N i = 63
            · exact r_ifS hB hc hm ht hmi hqi hd h63
            · by_cases h42 : chT T N i = 42
              · exact r_loopS hB hc hm ht hmi hqi hd h42
              · by_cases h91 : chT T N i = 91
                · exact r_actS hB hc hm ht hmi hqi hd h91
                · by_cases h126 : chT T N i = 126
                  · exact r_tryS hB hc hm ht hmi hqi hd h126
                  · by_cases h58 : chT T N i = 58
                    · exact Or.inr (r_colon (n := n + 1) hc hm ht (Or.inl (by omega)) hd h58)
                    · by_cases hs : ∃ kd, smN (chT T N i) kd
                      · obtain ⟨kd, hs⟩ := hs
                        exact r_simple (n := n + 1) hc hm ht hmi hqi hs
                      · refine Or.inr (r_bad (n := n + 1) hc hm (Or.inr ?_))
                        have n1 : chT T N i ≠ 33 := fun h => hs ⟨4, Or.inl ⟨h, rfl⟩⟩
                        have n2 : chT T N i ≠ 94 := fun h => hs ⟨12, Or.inr (Or.inl ⟨h, rfl⟩)⟩
                        have n3 : chT T N i ≠ 43 := fun h => hs ⟨13, Or.inr (Or.inr (Or.inl ⟨h, rfl⟩))⟩
                        have n4 : chT T N i ≠ 38 := fun h => hs ⟨14, Or.inr (Or.inr (Or.inr (Or.inl ⟨h, rfl⟩)))⟩
                        have n5 : chT T N i ≠ 124 := fun h => hs ⟨15, Or.inr (Or.inr (Or.inr (Or.inr (Or.inl ⟨h, rfl⟩))))⟩
                        have n6 : chT T N i ≠ 60 := fun h => hs ⟨16, Or.inr (Or.inr (Or.inr (Or.inr (Or.inr ⟨h, rfl⟩))))⟩
                        unfold shN
                        rw [if_neg hv, if_neg hf, if_neg n1, if_neg n4, if_neg h39, if_neg h42, if_neg n3, if_neg h58, if_neg n6, if_neg h63, if_neg h64, if_neg h91, if_neg n2, if_neg n5, if_neg h126]
