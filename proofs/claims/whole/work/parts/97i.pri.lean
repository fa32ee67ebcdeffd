/-! calls, what begins no statement, functions within blocks -/
theorem r_call {S : zzS} {Mc Mm : zzM} {T : Nat → Nat} {N w i m q tl d fu n : Nat} (hc : cQ S Mc T N i tl fu) (hm : mQ Mm T N w i m q tl d) (ht : tl < 100) (hmi : m ≤ i) (hqi : q ≤ i) (hx : 65 ≤ chT T N i ∧ chT T N i ≤ 90) (hx64 : chT T N i ≠ 64) : sO S T N w i m q tl d fu Mc Mm (FD_Rd_statement (n + 2) S Mc 23 (nI d)) (fun f => zzcall (F_Md_readStatement lwSm Mm 28) (fun _ M => rd f M)) ∨ rF S N w i tl fu 0 Mc Mm (FD_Rd_statement (n + 2) S Mc 23 (nI d)) (fun f => zzcall (F_Md_readStatement lwSm Mm 28) (fun _ M => rd f M)) := by
  have hN := hc.1.2.2.2.2.1
  have hiN := hc.2.2.1
  have hok := hm.1.ok
  have hw := hm.1.2.2.1
  have hS := hc.1.1
  have hS63 := hS.2.2.2
  have hnv : ¬ isV (chT T N i) := by unfold isV; omega
  have hsh : shN (chT T N i) = 1 := by unfold shN; rw [if_neg (by omega), if_pos hx]
  have hkd : kdN (chT T N i) = 65 := by unfold kdN; rw [if_neg (by omega), if_pos hx]
  have hop : opN (chT T N i) = nI (chT T N i - 65) := by unfold opN; rw [if_neg (by omega), if_pos hx]
  have hlt := chT_lt (T := T) (N := N) (i := i) (by omega)
  have ec : chM T N i = nI (chT T N i) := by unfold chM; rw [if_pos hlt.1, hlt.2]
  have e65 : chM T N i - (65 : Int32) = nI (chT T N i - 65) := by rw [ec]; exact psub (b := 65) hx.1
  obtain ⟨b1, b2, b3, b4, b5, b6⟩ := cbg_f (kd := kdN (chT T N i)) (op := opN (chT T N i)) hc ht (by omega) (by omega)
  obtain ⟨h1, h2, h3⟩ := m_head (kd := 18) hm (show m < 600 by omega)
  have hm2 := (h1.ord (a := 34) (k := m) (v := nI (chT T N i - 65)) (by omega) (by omega)).at (i + 1)
  have hf2 := (h2.tr (frR_o (a := 34) (k0 := m) (v := nI (chT T N i - 65)) (by omega) (Nat.le_refl m) (by omega)) (Nat.le_refl _) (Nat.le_refl _) (Nat.le_refl _)).tr (frR_s (j := 16) (v := nI (i + 1)) (by omega)) (Nat.le_refl _) (Nat.le_refl _) (Nat.le_refl _)
  obtain ⟨v1, v2, v3, v4, v5, v6⟩ := moM_v (M := zzsI Mm 28 20 (nI (tl + 1))) (w := w) (m := m) (kd := 18) (wh := nI i)
  have ne : ∀ v, v < 1000 → v ≠ 0 → chT T N i ≠ v → ¬ chM T N i = nI v := fun v h1 h2 h => chM_ne hok h1 h2 h
  have hso : F_Md_simpleOf lwSm (zzsI Mm 28 20 (nI (tl + 1))) (chM T N i) = some (0, zzsI Mm 28 20 (nI (tl + 1))) := by
    rw [m_simpleOf hok rfl, if_neg (by omega), if_neg (by omega), if_neg (by omega), if_neg (by omega), if_neg (by omega), if_neg (by omega)]
  have hrs : F_Md_readStatement lwSm Mm 28 = F_Md_expect lwSm (zzsI (zzsI (moM (zzsI Mm 28 20 (nI (tl + 1))) w m 18 (nI i)) 34 (600 * w + m) (nI (chT T N i - 65))) 28 16 (nI (i + 1))) 28 (nI 59) := by
    have h16 : zzI (zzsI (moM (zzsI Mm 28 20 (nI (tl + 1))) w m 18 (nI i)) 34 (600 * w + m) (nI (chT T N i - 65))) 28 16 = nI i := (h1.ord (a := 34) (k := m) (v := nI (chT T N i - 65)) (by omega) (by omega)).2.1
    rw [m_rs hm (by omega) ht, m_isVar_n hok _ _ hnv, pcall, if_pos rfl, if_neg (show ¬ chM T N i = (64 : Int32) from ne 64 (by omega) (by omega) (by omega)), if_neg (show ¬ chM T N i = (39 : Int32) from ne 39 (by omega) (by omega) (by omega)), hso, pcall, if_pos rfl, if_neg (show ¬ chM T N i = (63 : Int32) from ne 63 (by omega) (by omega) (by omega)), if_neg (show ¬ chM T N i = (42 : Int32) from ne 42 (by omega) (by omega) (by omega)), if_neg (show ¬ chM T N i = (91 : Int32) from ne 91 (by omega) (by omega) (by omega)), if_neg (show ¬ chM T N i = (126 : Int32) from ne 126 (by omega) (by omega) (by omega)), if_neg (show ¬ chM T N i = (58 : Int32) from ne 58 (by omega) (by omega) (by omega)), m_isFun_y hok _ _ hx, pcall, if_neg (by decide), h3, pcall, mR_8 h1.1.1, mr_34, h1.1.2.1, plet, plet, plet, e600, e65, plet, w_ix mn_34 hw (by omega), w_k hw (by omega), plet, h16, plet, plet, plet, ← nI_succ]
    exact zc_u _
  have hzn := gS_new S 13 0 9
  have hzl : S.2.1 < (zznew S 13 0 9).2.1 := by show S.2.1 < S.2.1 + 1; omega
  have hl1 : zzsl 1 = 1 := by decide
  have hex := m_expect hm2.1 hm2.2.1 (show i + 1 < 1000 by omega) hm2.2.2.1 (show 59 < 1000 by omega) (by omega)
  have hpt := p_t (n := n) (s := S.2.1) (dd := nI d) (v := 59) b1.1 b1.2.1 b1.2.2.1 (by omega)
  by_cases h59 : chT T N (i + 1) = 59
  · left
    rw [if_pos h59] at hex hpt
    have hlt2 := (chT_lt (T := T) (N := N) (i := i + 1) (by omega)).1
    have hst : FD_Rd_statement (n + 2) S Mc 23 (nI d) = some (some S.2.1, zznew S 13 0 9, zzsI (cbg S Mc (kdN (chT T N i)) (opN (chT T N i)) i tl (lnT (fun i => nI (T i)) i)) 23 2 (nI (i + 1 + 1))) := by
      refine c_stmt0 hc ht (by rw [hsh]; omega) ?_ (gS.rf _)
      rw [hsh]
      refine s58_y (q := 1999) (c := nI 59) b1.1.1 (by omega) (by rw [hl1]; omega) (by omega) (by rw [hl1]; omega) (by decide) hpt (gS.rf _) ?_ (gS.rf _)
      exact s58_end (q := 1998) (by omega) (by rw [hl1]) (by omega)
    have hI : ∀ k, zzI (zzsI (cbg S Mc (kdN (chT T N i)) (opN (chT T N i)) i tl (lnT (fun i => nI (T i)) i)) 23 2 (nI (i + 1 + 1))) S.2.1 k = zzI (cbg S Mc (kdN (chT T N i)) (opN (chT T N i)) i tl (lnT (fun i => nI (T i)) i)) S.2.1 k := fun k => by rw [pI_I, if_neg (by omega)]
    refine ⟨_, _, zzsI (zzsI (zzsI (moM (zzsI Mm 28 20 (nI (tl + 1))) w m 18 (nI i)) 34 (600 * w + m) (nI (chT T N i - 65))) 28 16 (nI (i + 1))) 28 16 (nI (i + 1 + 1)), i + 1 + 1, m + 1, q, tl + 1, 0, hst, hzn, b2.tr (fcN_23 (by omega)) (Nat.le_refl _), ?_, b6 8, fun f => ?_, hm2.at (i + 1 + 1), hf2.tr (frR_s (by omega)) (Nat.le_refl _) (Nat.le_refl _) (Nat.le_refl _), ⟨by omega, by omega, by omega, i, ?_, ?_, Or.inr (Or.inr (Or.inr (Or.inr (Or.inl ⟨?_, ?_, ⟨chT T N i - 65, by omega, ?_, ?_⟩, rfl⟩))))⟩, by omega, by omega, by omega, by omega, by omega, ⟨by show S.2.1 + 1 ≤ _; omega, by show S.2.2 + 9 ≤ _; omega⟩, by omega⟩
    · exact b1.N (gS.rf _) (fcN_23 (by omega)) (by simp [plet, pcall, pck, pI_I, pI_L, pI_R, pL_I, pL_L, pL_R, pR_I, pR_L, pR_R]) (by omega) (by omega) (nn_1 (N := N) (by omega) (by omega)) (by simp [plet, pcall, pck, pI_I, pI_L, pI_R, pL_I, pL_L, pL_R, pR_I, pR_L, pR_R]) (by simp [plet, pcall, pck, pI_I, pI_L, pI_R, pL_I, pL_L, pL_R, pR_I, pR_L, pR_R]; exact b1.2.2.2.2.1) (by omega)
    · show zzcall (F_Md_readStatement lwSm Mm 28) (fun _ M => rd f M) = _
      rw [hrs, hex, pcall]
    · obtain ⟨s1, s2, s3, s4, s5, s6⟩ := b5
      exact ⟨s1, s2, s3, s4, (hI 1).trans s5, (hI 2).trans s6⟩
    · show zzI (zzsI (zzsI (zzsI (moM (zzsI Mm 28 20 (nI (tl + 1))) w m 18 (nI i)) 34 (600 * w + m) (nI (chT T N i - 65))) 28 16 (nI (i + 1))) 28 16 (nI (i + 1 + 1))) 33 (600 * w + m) = nI i
      simp only [pI_I]
      rw [if_neg (by decide), if_neg (by decide), if_neg (by decide)]
      exact v2
    · rw [hI 0, b3, hkd]
    · show zzI (zzsI (zzsI (zzsI (moM (zzsI Mm 28 20 (nI (tl + 1))) w m 18 (nI i)) 34 (600 * w + m) (nI (chT T N i - 65))) 28 16 (nI (i + 1))) 28 16 (nI (i + 1 + 1))) 32 (600 * w + m) = 18
      simp only [pI_I]
      rw [if_neg (by decide), if_neg (by decide), if_neg (by decide)]
      exact v1
    · rw [hI 3, b4, hop]
    · show zzI (zzsI (zzsI (zzsI (moM (zzsI Mm 28 20 (nI (tl + 1))) w m 18 (nI i)) 34 (600 * w + m) (nI (chT T N i - 65))) 28 16 (nI (i + 1))) 28 16 (nI (i + 1 + 1))) 34 (600 * w + m) = _
      simp [pI_I]
  · right
    rw [if_neg h59] at hex hpt
    have hst : FD_Rd_statement (n + 2) S Mc 23 (nI d) = some (none, zznew S 13 0 9, cbg S Mc (kdN (chT T N i)) (opN (chT T N i)) i tl (lnT (fun i => nI (T i)) i)) := by
      refine c_stmt0 hc ht (by rw [hsh]; omega) ?_ (gS.rf _)
      rw [hsh]
      exact s58_n (q := 1999) (c := nI 59) (by omega) (by rw [hl1]; omega) (by omega) (by rw [hl1]; omega) (by decide) hpt (gS.rf _)
    refine rF_w (t2 := tl + 1) (y := i + 1) (p := i + 1) hst hzn b2.Z b1.2.1 b1.2.2.1 (Mm1 := zzsI (zzsI (zzsI (moM (zzsI Mm 28 20 (nI (tl + 1))) w m 18 (nI i)) 34 (600 * w + m) (nI (chT T N i - 65))) 28 16 (nI (i + 1))) 28 17 (nI (i + 1))) (fun f => ?_) (by simp [plet, pcall, pck, pI_I, pI_L, pI_R, pL_I, pL_L, pL_R, pR_I, pR_L, pR_R]) (by omega) (hf2.Z.tr (frR_s (m := m) (q := q) (d := d) (by omega)).Z) (by omega) (by omega) (by omega) (by omega) ⟨by show S.2.1 + 1 ≤ _; omega, by show S.2.2 + 9 ≤ _; omega⟩
    show zzcall (F_Md_readStatement lwSm Mm 28) (fun _ M => rd f M) = _
    rw [hrs, hex, pcall]
theorem r_bad {S : zzS} {Mc Mm : zzM} {T : Nat → Nat} {N w i m q tl d fu n : Nat} (hc : cQ S Mc T N i tl fu) (hm : mQ Mm T N w i m q tl d) (hx : tl = 100 ∨ shN (chT T N i) = 10) : rF S N w i tl fu 0 Mc Mm (FD_Rd_statement (n + 2) S Mc 23 (nI d)) (fun f => zzcall (F_Md_readStatement lwSm Mm 28) (fun _ M => rd f M)) := by
  have hN := hc.1.2.2.2.2.1
  have hiN := hc.2.2.1
  have hok := hm.1.ok
  have htl := hc.2.2.2.2.2.1
  have key : ∃ Mm1, F_Md_readStatement lwSm Mm 28 = some ((), Mm1) ∧ zzI Mm1 28 17 = nI i ∧ frZ w Mm Mm1 := by
    by_cases h100 : tl = 100
    · subst h100
      exact ⟨_, m_rs_f hm (by omega), by simp [plet, pcall, pck, pI_I, pI_L, pI_R, pL_I, pL_L, pL_R, pR_I, pR_L, pR_R], (frR_s (m := m) (q := q) (d := d) (by omega)).Z⟩
    · rcases hx with hx | hx
      · exact absurd hx h100
      · have nx : ∀ v, shN v ≠ 10 → chT T N i ≠ v := fun v h e => h (by rw [← e]; exact hx)
        have y1 : ¬ (97 ≤ chT T N i ∧ chT T N i ≤ 122) := fun h => by
          have : shN (chT T N i) = 0 := if_pos h
          omega
        have y2 : ¬ (65 ≤ chT T N i ∧ chT T N i ≤ 90) := fun h => by
          have : shN (chT T N i) = 1 := by unfold shN; rw [if_neg y1, if_pos h]
          omega
        have y3 := nx 33 (by decide)
        have y4 := nx 38 (by decide)
        have y5 := nx 39 (by decide)
        have y6 := nx 42 (by decide)
        have y7 := nx 43 (by decide)
        have y8 := nx 58 (by decide)
        have y9 := nx 60 (by decide)
        have y10 := nx 63 (by decide)
        have y11 := nx 64 (by decide)
        have y12 := nx 91 (by decide)
        have y13 := nx 94 (by decide)
        have y14 := nx 124 (by decide)
        have y15 := nx 126 (by decide)
        have ne : ∀ v, v < 1000 → v ≠ 0 → chT T N i ≠ v → ¬ chM T N i = nI v := fun v h1 h2 h => chM_ne hok h1 h2 h
        have hso : F_Md_simpleOf lwSm (zzsI Mm 28 20 (nI (tl + 1))) (chM T N i) = some (0, zzsI Mm 28 20 (nI (tl + 1))) := by
          rw [m_simpleOf hok rfl, if_neg y3, if_neg y4, if_neg y7, if_neg y9, if_neg y13, if_neg y14]
        refine ⟨zzsI (zzsI Mm 28 20 (nI (tl + 1))) 28 17 (nI i), ?_, by simp [plet, pcall, pck, pI_I, pI_L, pI_R, pL_I, pL_L, pL_R, pR_I, pR_L, pR_R], ((frR_s (m := m) (q := q) (d := d) (by omega)).tr (frR_s (by omega)) (Nat.le_refl _) (Nat.le_refl _) (Nat.le_refl _)).Z⟩
        have h16 : zzI (zzsI Mm 28 20 (nI (tl + 1))) 28 16 = nI i := hm.2.1
        rw [m_rs hm (by omega) (by omega), m_isVar_n hok _ _ (by unfold isV; omega), pcall, if_pos rfl, if_neg (show ¬ chM T N i = (64 : Int32) from ne 64 (by omega) (by omega) y11), if_neg (show ¬ chM T N i = (39 : Int32) from ne 39 (by omega) (by omega) y5), hso, pcall, if_pos rfl, if_neg (show ¬ chM T N i = (63 : Int32) from ne 63 (by omega) (by omega) y10), if_neg (show ¬ chM T N i = (42 : Int32) from ne 42 (by omega) (by omega) y6), if_neg (show ¬ chM T N i = (91 : Int32) from ne 91 (by omega) (by omega) y12), if_neg (show ¬ chM T N i = (126 : Int32) from ne 126 (by omega) (by omega) y15), if_neg (show ¬ chM T N i = (58 : Int32) from ne 58 (by omega) (by omega) y8), m_isFun_n hok _ _ (by unfold isF; omega), pcall, if_pos rfl, h16, plet, plet]
  obtain ⟨Mm1, k1, k2, k3⟩ := key
  refine rF_w (t2 := tl) (y := i) (p := i) (c_stmt0_n hc hx) (gS.rf _) (fcN.rf _ _).Z hc.2.1 hiN (Mm1 := Mm1) (fun f => ?_) k2 (by omega) k3 (Nat.le_refl _) htl (Nat.le_refl _) hiN ⟨by omega, by omega⟩
  show zzcall (F_Md_readStatement lwSm Mm 28) (fun _ M => rd f M) = _
  rw [k1, pcall]
/-- a function's letter -/
theorem m_rs_58 {Mm : zzM} {T : Nat → Nat} {N w i m q tl d : Nat} (hm : mQ Mm T N w i m q tl d) (hi : i < 1000) (ht : tl < 100) (hx : chT T N i = 58) : F_Md_readStatement lwSm Mm 28 = F_Md_readFunction lwSm (zzsI Mm 28 20 (nI (tl + 1))) 28 (nI i) := by
  have hok := hm.1.ok
  have ec : chM T N i = (58 : Int32) := chM_is hok (v := 58) (by omega) (by omega) hx
  have hso : F_Md_simpleOf lwSm (zzsI Mm 28 20 (nI (tl + 1))) (chM T N i) = some (0, zzsI Mm 28 20 (nI (tl + 1))) := by
    rw [m_simpleOf hok hx]; rfl
  rw [m_rs hm hi ht, m_isVar_n hok _ _ (by unfold isV; omega), pcall, if_pos rfl, if_neg (by rw [ec]; decide), if_neg (by rw [ec]; decide), hso, pcall, if_pos rfl, if_neg (by rw [ec]; decide), if_neg (by rw [ec]; decide), if_neg (by rw [ec]; decide), if_neg (by rw [ec]; decide), if_pos ec]
  exact zc_u _
theorem p_F {S : zzS} {M : zzM} {n s : Nat} {dd : Int32} : FD_Rd_part (n + 1) S M 23 (some s) 70 dd = zzcall (F_Rd_newFunction S M 23 (some s) dd) fun r44 M => zzck (zzokZ r44) (some (r44, S, M)) := by
  rw [FDp_s]; rfl
theorem r_colon {S : zzS} {Mc Mm : zzM} {T : Nat → Nat} {N w i m q tl d fu n : Nat} (hc : cQ S Mc T N i tl fu) (hm : mQ Mm T N w i m q tl d) (ht : tl < 100) (hd : 1 ≤ d ∨ ¬ (65 ≤ chT T N (i + 1) ∧ chT T N (i + 1) ≤ 90)) (hd2 : d ≤ 2) (hx : chT T N i = 58) : rF S N w i tl fu 0 Mc Mm (FD_Rd_statement (n + 2) S Mc 23 (nI d)) (fun f => zzcall (F_Md_readStatement lwSm Mm 28) (fun _ M => rd f M)) := by
  have hN := hc.1.2.2.2.2.1
  have hiN := hc.2.2.1
  have hok := hm.1.ok
  have hS := hc.1.1
  have hS63 := hS.2.2.2
  have hsh : shN (chT T N i) = 9 := by rw [hx]; decide
  have hlt := chT_lt (T := T) (N := N) (i := i) (by omega)
  obtain ⟨b1, b2, b3, b4, b5, b6⟩ := cbg_f (kd := kdN (chT T N i)) (op := opN (chT T N i)) hc ht (by omega) (by omega)
  have hzn := gS_new S 13 0 9
  have hzk : zzk (zznew S 13 0 9) S.2.1 = 13 := by unfold zzk zznew; simp
  have hzl : S.2.1 < (zznew S 13 0 9).2.1 := by show S.2.1 < S.2.1 + 1; omega
  have hl9 : zzsl 9 = 2 := by decide
  have hm1 := (hm.tl (tl + 1)).at (i + 1)
  have hpk := m_peek hm1.1 hm1.2.1 (show i + 1 < 1000 by omega)
  have hch := chT_le hok (i + 1)
  have hz0 : zzokZ 0 = true := by decide
  have h16 : zzI (zzsI Mm 28 20 (nI (tl + 1))) 28 16 = nI i := hm.2.1
  have hfr : frZ w Mm (zzsI (zzsI Mm 28 20 (nI (tl + 1))) 28 16 (nI (i + 1))) := ((frR_s (m := m) (q := q) (d := d) (by omega)).tr (frR_s (by omega)) (Nat.le_refl _) (Nat.le_refl _) (Nat.le_refl _)).Z
  have hstF : ∀ M9, FD_Rd_part (n + 1) (zznew S 13 0 9) (cbg S Mc (kdN (chT T N i)) (opN (chT T N i)) i tl (lnT (fun i => nI (T i)) i)) 23 (some S.2.1) 70 (nI d) = some (0, zznew S 13 0 9, M9) → FD_Rd_statement (n + 2) S Mc 23 (nI d) = some (none, zznew S 13 0 9, M9) := fun M9 h9 => by
    refine c_stmt0 hc ht (by rw [hsh]; omega) ?_ (gS.rf _)
    rw [hsh]
    exact s58_n (q := 1999) (c := 70) (by omega) (by rw [hl9]; omega) (by omega) (by rw [hl9]; omega) (by decide) h9 (gS.rf _)
  by_cases hF : 65 ≤ chT T N (i + 1) ∧ chT T N (i + 1) ≤ 90
  · have hd1 : 1 ≤ d := by
      rcases hd with h | h
      · exact h
      · exact absurd hF h
    have hplace : zzI (zzsI (cbg S Mc (kdN (chT T N i)) (opN (chT T N i)) i tl (lnT (fun i => nI (T i)) i)) S.2.1 3 (nI (chT T N (i + 1)) - 65)) S.2.1 1 = nI i := by
      rw [pI_I, if_pos rfl, if_neg (by decide)]
      exact b5.2.2.2.2.1
    have hst := hstF (zzsI (zzsI (cbg S Mc (kdN (chT T N i)) (opN (chT T N i)) i tl (lnT (fun i => nI (T i)) i)) S.2.1 3 (nI (chT T N (i + 1)) - 65)) 23 2 (nI i)) (by
      rw [p_F]
      unfold F_Rd_newFunction
      rw [c_peek b1.1 b1.2.1 b1.2.2.1, pcall, c_isFun _ _ (show chT T N (i + 1) < 1000 by omega), if_pos hF, pcall, if_neg (by decide), plet, poptp hzl hzk, plet, if_pos (show (0 : Int32) < nI d from nI_lt (a := 0) (by omega) (by omega)), plet, hplace, plet, pcall, hz0, pck])
    have hmf : F_Md_readFunction lwSm (zzsI Mm 28 20 (nI (tl + 1))) 28 (nI i) = some ((), zzsI (zzsI (zzsI Mm 28 20 (nI (tl + 1))) 28 16 (nI (i + 1))) 28 17 (nI i)) := by
      unfold F_Md_readFunction
      rw [h16, plet, plet, plet, ← nI_succ, hpk, pcall, plet, hpk, pcall, m_isFun_y hok _ _ hF, pcall, if_neg (by decide), hm1.2.2.2.2.2.2, plet, if_pos (show (0 : Int32) < nI d from nI_lt (a := 0) (by omega) (by omega)), plet]
    refine rF_w (t2 := tl + 1) (y := i) (p := i) hst hzn ((b2.tr (fcN_n (Nat.le_refl _)) (Nat.le_refl _)).tr (fcN_23 (by omega)) (Nat.le_refl _)).Z (by simp [plet, pcall, pck, pI_I, pI_L, pI_R, pL_I, pL_L, pL_R, pR_I, pR_L, pR_R]) hiN (Mm1 := zzsI (zzsI (zzsI Mm 28 20 (nI (tl + 1))) 28 16 (nI (i + 1))) 28 17 (nI i)) (fun f => ?_) (by simp [plet, pcall, pck, pI_I, pI_L, pI_R, pL_I, pL_L, pL_R, pR_I, pR_L, pR_R]) (by omega) (hfr.tr (frR_s (m := m) (q := q) (d := d) (by omega)).Z) (by omega) (by omega) (Nat.le_refl _) hiN ⟨by show S.2.1 + 1 ≤ _; omega, by show S.2.2 + 9 ≤ _; omega⟩
    show zzcall (F_Md_readStatement lwSm Mm 28) (fun _ M => rd f M) = _
    rw [m_rs_58 hm (by omega) ht hx, hmf, pcall]
  · have hst := hstF (cbg S Mc (kdN (chT T N i)) (opN (chT T N i)) i tl (lnT (fun i => nI (T i)) i)) (by
      rw [p_F]
      unfold F_Rd_newFunction
      rw [c_peek b1.1 b1.2.1 b1.2.2.1, pcall, c_isFun _ _ (show chT T N (i + 1) < 1000 by omega), if_neg hF, pcall, if_pos rfl, pcall, hz0, pck])
    have hmf : F_Md_readFunction lwSm (zzsI Mm 28 20 (nI (tl + 1))) 28 (nI i) = some ((), zzsI (zzsI (zzsI Mm 28 20 (nI (tl + 1))) 28 16 (nI (i + 1))) 28 17 (nI (i + 1))) := by
      unfold F_Md_readFunction
      rw [h16, plet, plet, plet, ← nI_succ, hpk, pcall, plet, hpk, pcall, m_isFun_n hok _ _ hF, pcall, if_pos rfl, hm1.2.1, plet, plet]
    refine rF_w (t2 := tl + 1) (y := i) (p := i + 1) hst hzn b2.Z b1.2.1 b1.2.2.1 (Mm1 := zzsI (zzsI (zzsI Mm 28 20 (nI (tl + 1))) 28 16 (nI (i + 1))) 28 17 (nI (i + 1))) (fun f => ?_) (by simp [plet, pcall, pck, pI_I, pI_L, pI_R, pL_I, pL_L, pL_R, pR_I, pR_L, pR_R]) (by omega) (hfr.tr (frR_s (m := m) (q := q) (d := d) (by omega)).Z) (by omega) (by omega) (Nat.le_refl _) hiN ⟨by show S.2.1 + 1 ≤ _; omega, by show S.2.2 + 9 ≤ _; omega⟩
    show zzcall (F_Md_readStatement lwSm Mm 28) (fun _ M => rd f M) = _
    rw [m_rs_58 hm (by omega) ht hx, hmf, pcall]
