/-! acts and loops read -/
theorem rF.up {S S2 : zzS} {N w i i2 tl t1 fu c c2 s k k0 : Nat} {Mc Mm Mc2 Mm2 : zzM} {x x2 : Option (Option Nat × zzS × zzM)} {G G2 : Nat → Option (Int32 × zzM)} (H : rF S2 N w i2 t1 fu c2 Mc2 Mm2 x2 G2) (g : gS S S2) (hf : fcZ fu S.2.1 Mc Mc2) (hz : frZ w Mm Mm2) (hs : S.2.1 ≤ s) (hs63 : 63 ≤ s) (hx : ∀ S1 Mc1, gS S2 S1 → x2 = some (none, S1, Mc1) → x = some (none, S1, zzsR Mc1 s k none)) (hG : ∀ f, G (f + k0) = G2 f) (ht : tl ≤ t1) (hi : i ≤ i2) (hg1 : S2.2.1 + c2 ≤ S.2.1 + 5 * (t1 - tl) + c) (hg2 : S2.2.2 + 2 * c2 ≤ S.2.2 + 13 * (t1 - tl) + (i2 - i) + 2 * c) (hk0 : k0 + c2 ≤ i2 - i + 2 * (t1 - tl) + c) : rF S N w i tl fu c Mc Mm x G := by
  obtain ⟨p, S1, Mc1, Mm1, kk, t2, y, a1, a2, a3, a4, a5, a6, a7, a8, a9, a10, a11, a12, a13, a14⟩ := H
  have hle := g.1
  refine ⟨p, S1, _, Mm1, kk + k0, t2, y, hx S1 Mc1 a2 a1, g.tr a2, (hf.tr a3 hle).tr (n1 := S.2.1) ⟨fun _ _ _ _ _ => rfl, fun a j h1 _ => by rw [pR_R, if_neg (by omega)], fun _ _ _ => rfl⟩ (Nat.le_refl _), a4, a5, fun f => ?_, a7, hz.tr a8, by omega, a10, by omega, a12, ⟨by have := a13.1; omega, by have := a13.2; omega⟩, by omega⟩
  rw [show f + (kk + k0) + 1 = f + kk + 1 + k0 by omega, hG]
  exact a6 f
theorem mcl_o {M : zzM} {i d a k : Nat} (h : 32 ≤ a ∧ a ≤ 43) : zzI (mcl M i d) a k = zzI M a k := by
  simp only [mcl, pI_I]
  rw [if_neg (by omega), if_neg (by omega)]
theorem moM_c {M : zzM} {w m a k : Nat} {kd wh : Int32} (h : a = 39 ∨ a = 40) : zzI (moM M w m kd wh) a k = zzI M a k := by
  rcases h with rfl | rfl <;> simp [moM, pI_I]
theorem r_actS {S : zzS} {Mc Mm : zzM} {T : Nat → Nat} {N w i m q tl d fu n : Nat} (hB : d < 2 → rBk T N w fu n (d + 1)) (hc : cQ S Mc T N i tl fu) (hm : mQ Mm T N w i m q tl d) (ht : tl < 100) (hmi : m ≤ i) (hqi : q ≤ i) (hd : d ≤ 2) (hx : chT T N i = 91) : sO S T N w i m q tl d fu Mc Mm (FD_Rd_statement (n + 3) S Mc 23 (nI d)) (fun f => zzcall (F_Md_readStatement lwSm Mm 28) (fun _ M => rd f M)) ∨ rF S N w i tl fu 0 Mc Mm (FD_Rd_statement (n + 3) S Mc 23 (nI d)) (fun f => zzcall (F_Md_readStatement lwSm Mm 28) (fun _ M => rd f M)) := by
  have hN := hc.1.2.2.2.2.1
  have hiN := hc.2.2.1
  have hok := hm.1.ok
  have hw := hm.1.2.2.1
  have hS := hc.1.1
  have hS63 := hS.2.2.2
  have hsh : shN (chT T N i) = 7 := by rw [hx]; decide
  have hkd : kdN (chT T N i) = 91 := by rw [hx]; decide
  have hlt := chT_lt (T := T) (N := N) (i := i) (by omega)
  have ec : chM T N i = (91 : Int32) := chM_is hok (v := 91) (by omega) (by omega) hx
  obtain ⟨b1, b2, b3, b4, b5, b6⟩ := cbg_f (kd := kdN (chT T N i)) (op := opN (chT T N i)) hc ht (by omega) (by omega)
  obtain ⟨h1, h2, h3⟩ := m_head (kd := 7) hm (show m < 600 by omega)
  obtain ⟨v1, v2, v3, v4, v5, v6⟩ := moM_v (M := zzsI Mm 28 20 (nI (tl + 1))) (w := w) (m := m) (kd := 7) (wh := nI i)
  have hso : F_Md_simpleOf lwSm (zzsI Mm 28 20 (nI (tl + 1))) (chM T N i) = some (0, zzsI Mm 28 20 (nI (tl + 1))) := by
    rw [m_simpleOf hok hx]; rfl
  have hrs : F_Md_readStatement lwSm Mm 28 = F_Md_open lwSm (moM (zzsI Mm 28 20 (nI (tl + 1))) w m 7 (nI i)) 28 4 (nI 91) (nI m) := by
    rw [m_rs hm (by omega) ht, m_isVar_n hok _ _ (by unfold isV; omega), pcall, if_pos rfl, if_neg (by rw [ec]; decide), if_neg (by rw [ec]; decide), hso, pcall, if_pos rfl, if_neg (by rw [ec]; decide), if_neg (by rw [ec]; decide), if_pos ec, h3, pcall]
    exact zc_u _
  have hzn := gS_new S 13 0 9
  have hzk : zzk (zznew S 13 0 9) S.2.1 = 13 := by unfold zzk zznew; simp
  have hzl : S.2.1 < (zznew S 13 0 9).2.1 := by show S.2.1 < S.2.1 + 1; omega
  have hl7 : zzsl 7 = 1 := by decide
  have hc0 : cQ (zznew S 13 0 9) (zzsI (cbg S Mc (kdN (chT T N i)) (opN (chT T N i)) i tl (lnT (fun i => nI (T i)) i)) 23 2 (nI i)) T N i (tl + 1) fu := by
    obtain ⟨c1, c2, c3, c4, c5, c6, c7⟩ := b1
    refine ⟨c1.N (gS.rf _) (fcN_23 (by omega)), by simp [plet, pcall, pck, pI_I, pI_L, pI_R, pL_I, pL_L, pL_R, pR_I, pR_L, pR_R], hiN, ?_, by simp [plet, pcall, pck, pI_I, pI_L, pI_R, pL_I, pL_L, pL_R, pR_I, pR_L, pR_R]; exact c5, c6, c7⟩
    have e : zzI (zzsI (cbg S Mc (kdN (chT T N i)) (opN (chT T N i)) i tl (lnT (fun i => nI (T i)) i)) 23 2 (nI i)) 23 3 = zzI (cbg S Mc (kdN (chT T N i)) (opN (chT T N i)) i tl (lnT (fun i => nI (T i)) i)) 23 3 := by simp [plet, pcall, pck, pI_I, pI_L, pI_R, pL_I, pL_L, pL_R, pR_I, pR_L, pR_R]
    rw [e, c4, ln_nn hok (show i ≤ i + 1 by omega) (by omega) (nn_1 (N := N) (by omega) (by omega))]
  have epart : FD_Rd_part (n + 2) (zznew S 13 0 9) (cbg S Mc (kdN (chT T N i)) (opN (chT T N i)) i tl (lnT (fun i => nI (T i)) i)) 23 (some S.2.1) 83 (nI d) = zzcallA (zznew S 13 0 9) (FD_Rd_enclosed (n + 1) (zznew S 13 0 9) (zzsI (cbg S Mc (kdN (chT T N i)) (opN (chT T N i)) i tl (lnT (fun i => nI (T i)) i)) 23 2 (nI i)) 23 (nI 91) (nI 93) (nI d)) (fun r83 S2 M => zzck (zzhas S2 S.2.1 13) (zzlet (zzsR M S.2.1 6 r83) fun M => zzlet (zzR M S.2.1 6) fun r85 => zzopt S2 12 r85 (some ((0 : Int32), S2, M)) (fun b86 => some ((1 : Int32), S2, M)))) := by
    rw [FDp_s]
    show zzopt (zznew S 13 0 9) 13 (some S.2.1) none (fun b81 => zzlet (zzI (cbg S Mc (kdN (chT T N i)) (opN (chT T N i)) i tl (lnT (fun i => nI (T i)) i)) b81 1) fun x82 => zzlet (zzsI (cbg S Mc (kdN (chT T N i)) (opN (chT T N i)) i tl (lnT (fun i => nI (T i)) i)) 23 2 x82) fun M => zzcallA (zznew S 13 0 9) (FD_Rd_enclosed (n + 1) (zznew S 13 0 9) M 23 (91 : Int32) (93 : Int32) (nI d)) fun r83 S M => zzck (zzhas S b81 13) (zzlet (zzsR M b81 6 r83) fun M => zzlet (zzR M b81 6) fun r85 => zzopt S 12 r85 (some ((0 : Int32), S, M)) (fun b86 => some ((1 : Int32), S, M)))) = _
    rw [poptp hzl hzk, b5.2.2.2.2.1, plet, plet]
    rfl
  have hf0 : fcN S.2.1 Mc (zzsI (cbg S Mc (kdN (chT T N i)) (opN (chT T N i)) i tl (lnT (fun i => nI (T i)) i)) 23 2 (nI i)) := b2.tr (fcN_23 (by omega)) (Nat.le_refl _)
  rcases r_encl (n := n) (br := 91) (ec := 93) (kd := 4) (ov := nI m) hB hc0 h1 (by omega) (by omega) hd (Or.inl ⟨rfl, rfl, rfl⟩) with ⟨S1, Mc1, Mm1, i2, m2, q2, t2, k, a1, a2, a3, a4, a5, a6, a7, a8, a9, a10, a11, a12, a13, a14, a15, a16, a17, a18, a19⟩ | H
  · left
    have hi2N := a4.2.2.1
    have hs1 := a2.k hzl hzk
    have hb1 : S.2.1 + 1 < S1.2.1 ∧ zzk S1 (S.2.1 + 1) = 12 := by
      have e : 2 - d = (1 - d) + 1 := by omega
      rw [e] at a11
      exact ⟨a11.2.1, a11.2.2.1.2.1⟩
    have hst : FD_Rd_statement (n + 3) S Mc 23 (nI d) = some (some S.2.1, S1, zzsR Mc1 S.2.1 6 (some (S.2.1 + 1))) := by
      refine c_stmt0 hc ht (by rw [hsh]; omega) ?_ a2
      rw [hsh]
      refine s58_y (q := 1999) (c := 83) a4.1.1 (by omega) (by rw [hl7]; omega) (by omega) (by rw [hl7]; omega) (by decide) ?_ a2 (s58_end (q := 1998) (by omega) (by rw [hl7]) (by omega)) (gS.rf _)
      rw [epart]
      refine pcallA a1 a2 ?_ (gS.rf _)
      have e2 : zzR (zzsR Mc1 S.2.1 6 (some (zznew S 13 0 9).2.1)) S.2.1 6 = some (zznew S 13 0 9).2.1 := by simp [plet, pcall, pck, pI_I, pI_L, pI_R, pL_I, pL_L, pL_R, pR_I, pR_L, pR_R]
      rw [phas hs1.1 hs1.2, pck, plet, plet, e2, poptp (show (zznew S 13 0 9).2.1 < S1.2.1 from hb1.1) (show zzk S1 (zznew S 13 0 9).2.1 = 12 from hb1.2)]
      rfl
    have hp : plM Mm1 w m = nI i := (a7.1 33 _ (by omega) (by omega) (by omega)).trans v2
    have ho : odM Mm1 w m = 7 := (a7.1 32 _ (by omega) (by omega) (by omega)).trans v1
    obtain ⟨c1, c2⟩ := a6.cl
    have hm26 : m2 < 600 := (a11.le).2.1
    have hcl : F_Md_close lwSm Mm1 28 = some ((), moM (mcl Mm1 i2 d) w m2 8 (nI i)) := by
      rw [m_close a6 a10 a8 a9 (by omega) hp]
      unfold mcK
      rw [if_neg (by decide), if_neg (by decide), if_neg (by decide), if_pos rfl, m_order c1.1 c1.2.2.2.1 hm26, pcall]
    obtain ⟨u1, u2, u3, u4, u5, u6⟩ := moM_v (M := mcl Mm1 i2 d) (w := w) (m := m2) (kd := 8) (wh := nI i)
    have hI : ∀ j, zzI (zzsR Mc1 S.2.1 6 (some (S.2.1 + 1))) S.2.1 j = zzI (cbg S Mc (kdN (chT T N i)) (opN (chT T N i)) i tl (lnT (fun i => nI (T i)) i)) S.2.1 j := fun j => by
      show zzI Mc1 S.2.1 j = _
      rw [a3.1 S.2.1 j hzl (by omega) (by omega), pI_I, if_neg (by omega)]
    have hor : ∀ a j, 32 ≤ a → a ≤ 37 → j ≠ m2 → zzI (moM (mcl Mm1 i2 d) w m2 8 (nI i)) a (600 * w + j) = zzI Mm1 a (600 * w + j) := fun a j g1 g2 g3 => (u6 a j g1 g2 g3).trans (mcl_o (by omega))
    refine ⟨S1, _, _, i2 + 1, m2 + 1, q2, t2, k, hst, hzn.tr a2, (hf0.tr a3 (by show S.2.1 ≤ S.2.1 + 1; omega)).tr (fcN_r (Nat.le_refl _)) (Nat.le_refl _), a4.w (by omega), ?_, fun f => ?_, c1.order hm26, ((h2.tr a7 (by omega) (Nat.le_refl _) (Nat.le_refl _)).tr c2 (by omega) (by omega) (Nat.le_refl _)).tr (moM_f hm26) (by omega) (by omega) (Nat.le_refl _), ⟨by omega, by omega, by omega, i, ?_, ?_, Or.inr (Or.inr (Or.inr (Or.inr (Or.inr (Or.inr (Or.inr (Or.inl ⟨?_, ?_, S.2.1 + 1, m2, ?_, ?_, u1, u2, rfl⟩)))))))⟩, by omega, by omega, by omega, by omega, by omega, ⟨?_, ?_⟩, by omega⟩
    · rw [pR_R, if_pos rfl, if_neg (by decide), a3.2.1 S.2.1 8 hzl]
      exact b6 8
    · show zzcall (F_Md_readStatement lwSm Mm 28) (fun _ M => rd (f + k) M) = _
      rw [hrs]
      refine (a5 f).trans ?_
      rw [hcl, pcall]
    · obtain ⟨s1, s2, s3, s4, s5, s6⟩ := b5
      exact ⟨s1, (a2.k s2 s3).1, (a2.k s2 s3).2, s4, (hI 1).trans s5, (hI 2).trans s6⟩
    · rw [plM, hor 33 m (by omega) (by omega) (by omega)]; exact hp
    · rw [hI 0, b3, hkd]
    · rw [odM, hor 32 m (by omega) (by omega) (by omega)]; exact ho
    · simp [plet, pcall, pck, pI_I, pI_L, pI_R, pL_I, pL_L, pL_R, pR_I, pR_L, pR_R]
    · refine qB.go (S := S1) (Mc := Mc1) (Mm := Mm1) (Nat.le_refl q2) (agC_s (by omega)) ⟨fun a j g1 g2 _ g4 => hor a j g1 g2 (by omega), fun a j g1 _ => ?_⟩ a11
      rw [moM_c g1]
      exact mcl_o (by omega)
    · have := a18.1
      have e : (zznew S 13 0 9).2.1 = S.2.1 + 1 := rfl
      omega
    · have := a18.2
      have e : (zznew S 13 0 9).2.2 = S.2.2 + 9 := rfl
      omega
  · right
    refine H.up (S := S) (k := 6) (s := S.2.1) (k0 := 0) (tl := tl) hzn hf0.Z h2.Z (Nat.le_refl _) (by omega) (fun S1 Mc1 g1 e1 => ?_) (fun f => ?_) (by omega) (Nat.le_refl _) (by show S.2.1 + 1 + 1 ≤ _; omega) (by show S.2.2 + 9 + 2 * 1 ≤ _; omega) (by omega)
    · refine c_stmt0 hc ht (by rw [hsh]; omega) ?_ g1
      rw [hsh]
      refine s58_n (q := 1999) (c := 83) (by omega) (by rw [hl7]; omega) (by omega) (by rw [hl7]; omega) (by decide) ?_ g1
      rw [epart]
      refine pcallA e1 g1 ?_ (gS.rf _)
      have hs1 := g1.k hzl hzk
      have e2 : zzR (zzsR Mc1 S.2.1 6 none) S.2.1 6 = none := by simp [plet, pcall, pck, pI_I, pI_L, pI_R, pL_I, pL_L, pL_R, pR_I, pR_L, pR_R]
      rw [phas hs1.1 hs1.2, pck, plet, plet, e2, poptn]
    · show zzcall (F_Md_readStatement lwSm Mm 28) (fun _ M => rd (f + 0) M) = _
      rw [hrs]
      rfl
