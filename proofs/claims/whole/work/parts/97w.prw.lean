/-! read -/
theorem r47_step {n : Nat} : F_Md_read_47 lwSm (n + 1) = F_Md_read_47_b lwSm (F_Md_read_47 lwSm n) := rfl
theorem m_r47 {w : Nat} (hw : w ≤ 1) : ∀ (m k n : Nat) (M : zzM), mdR M → zzI M 28 15 = nI w → k + m = 26 → m < n → ∃ M1, F_Md_read_47 lwSm n M 28 (nI k) = rd 2000 M1 ∧ (∀ j, k ≤ j → j < 26 → zzI M1 38 (26 * w + j) = -1) ∧ (∀ b j, ¬ (b = 38 ∧ 26 * w + k ≤ j ∧ j < 26 * w + 26) → zzI M1 b j = zzI M b j) ∧ M1.2 = M.2
  | 0, k, n + 1, M, hR, h15, hk, _ => by
    have hk : k = 26 := by omega
    subst hk
    refine ⟨M, ?_, fun j h1 h2 => by omega, fun _ _ _ => rfl, rfl⟩
    rw [r47_step]
    unfold F_Md_read_47_b
    rw [if_pos (by decide)]
  | m + 1, k, n + 1, M, hR, h15, hk, hn => by
    obtain ⟨M1, a1, a2, a3, a4⟩ := m_r47 hw m (k + 1) n (zzsI M 38 (26 * w + k) (-1)) hR h15 (by omega) (by omega)
    refine ⟨M1, ?_, fun j h1 h2 => ?_, fun b j hb => ?_, a4⟩
    · rw [r47_step]
      unfold F_Md_read_47_b
      rw [if_neg (show ¬ (26 : Int32) ≤ nI k from nI_ge (b := 26) (by omega) (by omega)), mR_12 hR, mr_38, plet, h15, plet, plet, e26, pix mn_38 (show 26 * w + k < 52 by omega) (by omega), plet, pnI (show 26 * w + k < 100000 by omega), plet, ← nI_succ]
      exact a1
    · by_cases hj : j = k
      · subst hj
        rw [a3 38 _ (by omega)]
        simp [plet, pcall, pck, pI_I, pI_L, pI_R, pL_I, pL_L, pL_R, pR_I, pR_L, pR_R]
      · exact a2 j (by omega) h2
    · rw [a3 b j (by omega), pI_I]
      by_cases h38 : b = 38
      · rw [if_pos h38, if_neg (by omega)]
      · rw [if_neg h38]
theorem r207_step {n : Nat} : F_Md_read_207 lwSm (n + 1) = F_Md_read_207_b lwSm (F_Md_read_207 lwSm n) := rfl
theorem m_r207 {w N : Nat} (hw : w ≤ 1) (hN : N ≤ 400) : ∀ (m k n : Nat) (M : zzM), mdR M → zzI M 28 15 = nI w → k + m = N → m < n → ∃ M1, F_Md_read_207 lwSm n M 28 (nI N) (nI k) = some (zzI M 28 20, mfgt M1) ∧ (∀ j, k ≤ j → j < N → zzI M1 31 (400 * w + j) = zzI M 29 j) ∧ (∀ b j, ¬ (b = 31 ∧ 400 * w + k ≤ j ∧ j < 400 * w + N) → b ≠ 30 → ¬ (b = 28 ∧ j = 3) → zzI M1 b j = zzI M b j) ∧ zzI M1 28 3 = nI w ∧ M1.2 = M.2
  | 0, k, n + 1, M, hR, h15, hk, _ => by
    have hk : k = N := by omega
    subst hk
    have h15' : zzI (zzsI M 30 w (nI k)) 28 15 = nI w := h15
    have hR1 : mdR (zzsI (zzsI M 30 w (nI k)) 28 3 (nI w)) := hR
    refine ⟨zzsI (zzsI M 30 w (nI k)) 28 3 (nI w), ?_, fun j h1 h2 => by omega, fun b j _ h2 h3 => ?_, by simp [plet, pcall, pck, pI_I, pI_L, pI_R, pL_I, pL_L, pL_R, pR_I, pR_L, pR_R], rfl⟩
    · rw [r207_step]
      unfold F_Md_read_207_b
      rw [if_pos (nI_le (Nat.le_refl _) (by omega)), mR_4 hR, mr_30, plet, h15, pix mn_30 (show w < 2 by omega) (by omega), plet, pnI (show w < 100000 by omega), plet, h15', plet, m_forget hR1, pcall, plet, mfgt_I (by omega)]
      rfl
    · rw [pI_I]
      by_cases h28 : b = 28
      · rw [if_pos h28, if_neg (fun e => h3 ⟨h28, e⟩), pI_I, if_neg h2]
      · rw [if_neg h28, pI_I, if_neg h2]
  | m + 1, k, n + 1, M, hR, h15, hk, hn => by
    obtain ⟨M1, a1, a2, a3, a4, a5⟩ := m_r207 hw hN m (k + 1) n (zzsI M 31 (400 * w + k) (zzI M 29 k)) hR h15 (by omega) (by omega)
    refine ⟨M1, ?_, fun j h1 h2 => ?_, fun b j hb h2 h3 => ?_, a4, a5⟩
    · rw [r207_step]
      unfold F_Md_read_207_b
      rw [if_neg (nI_ge (show k < N by omega) (by omega)), mR_5 hR, mr_31, plet, h15, plet, plet, e400, mR_2 hR, mr_29, pix mn_29 (show k < 400 by omega) (by omega), plet, pnI (show k < 100000 by omega), pix mn_31 (show 400 * w + k < 800 by omega) (by omega), plet, pnI (show 400 * w + k < 100000 by omega), plet, ← nI_succ]
      exact a1
    · by_cases hj : j = k
      · subst hj
        rw [a3 31 _ (by omega) (by omega) (by omega)]
        simp [plet, pcall, pck, pI_I, pI_L, pI_R, pL_I, pL_L, pL_R, pR_I, pR_L, pR_R]
      · rw [a2 j (by omega) h2, pI_I, if_neg (by omega)]
    · rw [a3 b j (by omega) h2 h3, pI_I]
      by_cases h31 : b = 31
      · rw [if_pos h31, if_neg (by omega)]
      · rw [if_neg h31]
/-- the class's reader set to the text -/
def crd (S : zzS) (M : zzM) (N : Nat) : zzM := zzsR (zzclr (zzsI (zzsI (zzsI (zzsI (zzsR M 23 0 (some 1)) 23 1 (nI N)) 23 2 0) 23 3 1) 23 4 0) S.2.1) 23 5 (some S.2.1)
theorem c_sc_n {S S1 : zzS} {M M1 : zzM} {N : Nat} (hS : clS S) (hN : N ≤ 400) (h : FD_Rd_block 60 (zznew S 4 26 26) (crd S M N) 23 (nI 0) (nI 0) = some (none, S1, M1)) (g : gS (zznew S 4 26 26) S1) : F_Rd_scriptOf S M 23 (some 1) (nI N) = some (none, S1, M1) := by
  have hS1 := (gS_new S 4 26 26).cl hS
  have hz : zznn 26 = true := by decide
  have e26 : (26 : Int32).toNatClampNeg = 26 := by decide
  have hif : (if Int32.ofNat 400 < nI N then Int32.ofNat 400 else nI N) = nI N := if_neg (show ¬ nI 400 < nI N from nI_nlt hN (by omega))
  unfold F_Rd_scriptOf
  rw [plet, cO_1 hS, plet, cn_1 hS, plet, hif, plet, plet, plet, plet, hz, pck, e26]
  refine pmk ?_ g
  rw [phas (cl_23 hS1) (ck_23 hS1), pck, plet]
  refine pcallA h g ?_ (gS.rf _)
  rw [poptn]
theorem c_sc_y {S S1 : zzS} {M M1 : zzM} {N b fu : Nat} {x : Int32} (hS : clS S) (hN : N ≤ 400) (h : FD_Rd_block 60 (zznew S 4 26 26) (crd S M N) 23 (nI 0) (nI 0) = some (some b, S1, M1)) (g : gS (zznew S 4 26 26) S1) (hb : b < S1.2.1 ∧ zzk S1 b = 12) (h5 : zzR M1 23 5 = some fu) (hfu : fu < S1.2.1 ∧ zzk S1 fu = 4) (h4 : zzI M1 23 4 = x) : F_Rd_scriptOf S M 23 (some 1) (nI N) = some (some S1.2.1, zznew S1 11 0 3, zzsI (zzsR (zzsR (zzclr M1 S1.2.1) S1.2.1 0 (some b)) S1.2.1 1 (some fu)) S1.2.1 2 x) := by
  have hS1 := (gS_new S 4 26 26).cl hS
  have hS2 := g.cl hS1
  have g2 := gS_new S1 11 0 3
  have hS3 := g2.cl hS2
  have h63 := hS2.2.2.2
  have hz : zznn 26 = true := by decide
  have e26 : (26 : Int32).toNatClampNeg = 26 := by decide
  have hif : (if Int32.ofNat 400 < nI N then Int32.ofNat 400 else nI N) = nI N := if_neg (show ¬ nI 400 < nI N from nI_nlt hN (by omega))
  have h5' : zzR (zzclr M1 S1.2.1) 23 5 = some fu := by simp only [zzR, zzclr]; rw [if_neg (by omega)]; exact h5
  have h4' : zzI (zzclr M1 S1.2.1) 23 4 = x := by simp only [zzI, zzclr]; rw [if_neg (by omega)]; exact h4
  have hfu3 := g2.k hfu.1 hfu.2
  unfold F_Rd_scriptOf
  rw [plet, cO_1 hS, plet, cn_1 hS, plet, hif, plet, plet, plet, plet, hz, pck, e26]
  refine pmk ?_ (g.tr g2)
  rw [phas (cl_23 hS1) (ck_23 hS1), pck, plet]
  refine pcallA h g ?_ g2
  rw [poptp hb.1 hb.2]
  refine pmk ?_ (gS.rf _)
  rw [phas (cl_23 hS3) (ck_23 hS3), pck, h5', prefp hfu3.1 hfu3.2, plet, h4']
  unfold F_Sc_init
  rw [plet, plet, plet, pcall]
theorem crd_I {S : zzS} {M : zzM} {N a k : Nat} (h1 : a ≠ 23) (h2 : a ≠ S.2.1) : zzI (crd S M N) a k = zzI M a k := by
  unfold crd
  rw [pI_R]
  show (if a = S.2.1 then (fun _ => 0) else (zzsI (zzsI (zzsI (zzsI (zzsR M 23 0 (some 1)) 23 1 (nI N)) 23 2 0) 23 3 1) 23 4 0).1 a) k = _
  rw [if_neg h2]
  show zzI (zzsI (zzsI (zzsI (zzsI (zzsR M 23 0 (some 1)) 23 1 (nI N)) 23 2 0) 23 3 1) 23 4 0) a k = _
  rw [pI_I, if_neg h1, pI_I, if_neg h1, pI_I, if_neg h1, pI_I, if_neg h1]
  rfl
theorem crd_L {S : zzS} {M : zzM} {N a k : Nat} (h2 : a ≠ S.2.1) : zzL (crd S M N) a k = zzL M a k := by
  show (if a = S.2.1 then (fun _ => 0) else M.2.1 a) k = _
  rw [if_neg h2]
  rfl
theorem crd_R {S : zzS} {M : zzM} {N a k : Nat} (h1 : ¬ (a = 23 ∧ (k = 0 ∨ k = 5))) (h2 : a ≠ S.2.1) : zzR (crd S M N) a k = zzR M a k := by
  unfold crd
  rw [pR_R]
  have e : zzR (zzclr (zzsI (zzsI (zzsI (zzsI (zzsR M 23 0 (some 1)) 23 1 (nI N)) 23 2 0) 23 3 1) 23 4 0) S.2.1) a k = zzR (zzsR M 23 0 (some 1)) a k := by
    show (if a = S.2.1 then (fun _ => none) else (zzsR M 23 0 (some 1)).2.2 a) k = _
    rw [if_neg h2]
    rfl
  rw [e, pR_R]
  by_cases h : a = 23
  · rw [if_pos h, if_neg (by omega), if_pos h, if_neg (by omega)]
  · rw [if_neg h, if_neg h]
theorem crd_f {S : zzS} {M : zzM} {N k : Nat} (h : 63 ≤ S.2.1) : zzR (crd S M N) S.2.1 k = none := by
  unfold crd
  rw [pR_R, if_neg (by omega)]
  show (if S.2.1 = S.2.1 then (fun _ => none) else _) k = none
  rw [if_pos rfl]
theorem crd_v {S : zzS} {M : zzM} {N : Nat} (h : 63 ≤ S.2.1) : zzR (crd S M N) 23 0 = some 1 ∧ zzI (crd S M N) 23 1 = nI N ∧ zzI (crd S M N) 23 2 = 0 ∧ zzI (crd S M N) 23 3 = 1 ∧ zzI (crd S M N) 23 4 = 0 ∧ zzR (crd S M N) 23 5 = some S.2.1 := by
  have hI : ∀ k, zzI (crd S M N) 23 k = zzI (zzsI (zzsI (zzsI (zzsI (zzsR M 23 0 (some 1)) 23 1 (nI N)) 23 2 0) 23 3 1) 23 4 0) 23 k := fun k => by
    show (if 23 = S.2.1 then (fun _ => 0) else _) k = _
    rw [if_neg (by omega)]
    rfl
  have hR : ∀ k, k ≠ 5 → zzR (crd S M N) 23 k = zzR (zzsR M 23 0 (some 1)) 23 k := fun k hk => by
    unfold crd
    rw [pR_R, if_pos rfl, if_neg hk]
    show (if 23 = S.2.1 then (fun _ => none) else (zzsR M 23 0 (some 1)).2.2 23) k = _
    rw [if_neg (by omega)]
    rfl
  refine ⟨by rw [hR 0 (by omega)]; simp [plet, pcall, pck, pI_I, pI_L, pI_R, pL_I, pL_L, pL_R, pR_I, pR_L, pR_R], by rw [hI]; simp [plet, pcall, pck, pI_I, pI_L, pI_R, pL_I, pL_L, pL_R, pR_I, pR_L, pR_R], by rw [hI]; simp [plet, pcall, pck, pI_I, pI_L, pI_R, pL_I, pL_L, pL_R, pR_I, pR_L, pR_R], by rw [hI]; simp [plet, pcall, pck, pI_I, pI_L, pI_R, pL_I, pL_L, pL_R, pR_I, pR_L, pR_R], by rw [hI]; simp [plet, pcall, pck, pI_I, pI_L, pI_R, pL_I, pL_L, pL_R, pR_I, pR_L, pR_R], by unfold crd; simp [plet, pcall, pck, pI_I, pI_L, pI_R, pL_I, pL_L, pL_R, pR_I, pR_L, pR_R]⟩
/-- the text's own block -/
theorem r_body {S0 : zzS} {Mc0 Mm0 : zzM} {T : Nat → Nat} {N w fu : Nat} (hfu0 : fu + 1 = S0.2.1) (hc : cQ S0 Mc0 T N 0 0 fu) (hm : mQ Mm0 T N w 0 0 0 0 0) (hfn : ∀ f, f < 26 → zzR Mc0 fu f = none ∧ zzI Mm0 38 (26 * w + f) = -1) : tO T N w fu S0 Mc0 Mm0 (FD_Rd_block 60 S0 Mc0 23 (nI 0) (nI 0)) (fun f => rd f Mm0) ∨ rF S0 N w 0 0 fu 1 Mc0 Mm0 (FD_Rd_block 60 S0 Mc0 23 (nI 0) (nI 0)) (fun f => rd f Mm0) := by
  have hN := hc.1.2.2.2.2.1
  have hS := hc.1.1
  have hS63 := hS.2.2.2
  have hfu63 : 63 ≤ fu := hc.2.2.2.2.2.2.2.1
  have g := gS_new S0 12 0 2
  have hS1 := g.cl hS
  have hfc : fcN S0.2.1 Mc0 (zzclr Mc0 S0.2.1) := fcN_clr (Nat.le_refl _)
  have hcl : ∀ a, a < S0.2.1 → ∀ k, zzI (zzclr Mc0 S0.2.1) a k = zzI Mc0 a k := fun a ha k => by simp only [zzI, zzclr]; rw [if_neg (by omega)]
  have hc1 : cQ (zznew S0 12 0 2) (zzclr Mc0 S0.2.1) T N 0 0 fu := hc.N g hfc ((hcl 23 (by omega) 2).trans hc.2.1) (Nat.le_refl _) hc.2.2.1 (fun x g1 g2 => by omega) (hcl 23 (by omega) 3) ((hcl 23 (by omega) 4).trans hc.2.2.2.2.1) (by omega)
  have hI : bkI (zznew S0 12 0 2) (zzclr Mc0 S0.2.1) Mm0 T N w 0 0 S0.2.1 0 0 [] := by
    refine ⟨by omega, by show S0.2.1 < S0.2.1 + 1; omega, by unfold zzk zznew; simp, by simp [zzR, zzclr], by simp [zzR, zzclr], by simp [zzR, zzclr], rfl, by show S0.2.1 + 1 ≤ S0.2.1 + 1; omega⟩
  have hF : fnQ (zznew S0 12 0 2) (zzclr Mc0 S0.2.1) Mm0 T N w 0 0 fu [] := fun f hf => Or.inl ⟨by
    simp only [zzR, zzclr]; rw [if_neg (by omega)]; exact (hfn f hf).1, (hfn f hf).2⟩
  obtain ⟨H, hgg⟩ := k_body (S0 := S0) (Mc0 := Mc0) (Mm0 := Mm0) (n := 48) hN hfu0 (N + 1) 2000 (zznew S0 12 0 2) (zzclr Mc0 S0.2.1) Mm0 0 0 0 0 0 [] (by omega) (by omega) g hfc.Z (frR.rf w 0 0 0 Mm0).Z hc1 hm hI hF (fun l hl => by simp at hl) (fun f => rfl) (by omega) (by omega) (by omega) (by simp) ⟨by show S0.2.1 + 1 ≤ _; omega, by show S0.2.2 + 2 ≤ _; omega⟩
  have hx : ∀ r S9 M9, cB11 59 2000 (zznew S0 12 0 2) (zzclr Mc0 S0.2.1) 23 (nI 0) (nI 0) S0.2.1 (nI ([] : List Nat).length) = some (r, S9, M9) → FD_Rd_block 60 S0 Mc0 23 (nI 0) (nI 0) = some (r, S9, M9) := fun r S9 M9 h9 => by
    rw [FDb_s (n := 59)]
    unfold F_Rd_block
    refine pmk ?_ (hgg _ _ _ h9)
    rw [F_Bl_init, pcall, phas (cl_23 hS1) (ck_23 hS1), pck]
    exact h9
  rcases H with ⟨S3, Mc3, Mm3, m3, q3, t3, k3, L3, b1, b2, b3⟩ | ⟨p, S3, Mc3, Mm3, k3, t3, y3, b1, b2, b3⟩
  · exact Or.inl ⟨S3, Mc3, Mm3, m3, q3, t3, k3, L3, hx _ _ _ b1, b2, b3⟩
  · exact Or.inr ⟨p, S3, Mc3, Mm3, k3, t3, y3, hx _ _ _ b1, b2, b3⟩
