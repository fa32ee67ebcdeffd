/-! functions, the body -/
def fnQ (S : zzS) (Mc Mm : zzM) (T : Nat → Nat) (N w q m fu : Nat) (L : List Nat) : Prop := ∀ f, f < 26 → (zzR Mc fu f = none ∧ zzI Mm 38 (26 * w + f) = -1) ∨ ∃ h s i j b, zzR Mc fu f = some s ∧ 63 ≤ s ∧ s < h ∧ h ≤ S.2.1 ∧ zzk S s = 13 ∧ fu < s ∧ zzR Mc s 6 = some b ∧ zzI Mm 38 (26 * w + f) = nI i ∧ i < 600 ∧ qB S Mc Mm w T N q 2 (s + 1) h b i j ∧ odM Mm w j = 19 ∧ j < m ∧ ∀ l ∈ L, l ≤ s ∨ h ≤ l
/-- carried over a statement and its appending -/
theorem fnQ.go {S S1 : zzS} {Mc Mc1 Mm Mm1 : zzM} {T : Nat → Nat} {N w q q2 m m2 fu b0 : Nat} {L : List Nat} (H : fnQ S Mc Mm T N w q m fu L) (g : gS S S1) (hfu : fu < S.2.1) (hb0 : ∀ s, fu < s → zzk S s = 13 → b0 ≠ s) (hb1 : fu ≠ b0) (hb2 : b0 < S.2.1) (hI : ∀ a k, 63 ≤ a → a < S.2.1 → zzI Mc1 a k = zzI Mc a k) (hR : ∀ a k, 63 ≤ a → a < S.2.1 → a ≠ fu → a ≠ b0 → ¬ (L.getLast? = some a ∧ k = 8) → zzR Mc1 a k = zzR Mc a k) (hm : agM w q 0 m Mm Mm1) (hq : q ≤ q2) (hmm : m ≤ m2) (hblo : ∀ s, fu < s → zzk S s = 13 → b0 < s) (f : Nat) (hf : f < 26) (hF : zzR Mc1 fu f = zzR Mc fu f) (h38 : zzI Mm1 38 (26 * w + f) = zzI Mm 38 (26 * w + f)) : (zzR Mc1 fu f = none ∧ zzI Mm1 38 (26 * w + f) = -1) ∨ ∃ h s i j b, zzR Mc1 fu f = some s ∧ 63 ≤ s ∧ s < h ∧ h ≤ S1.2.1 ∧ zzk S1 s = 13 ∧ fu < s ∧ zzR Mc1 s 6 = some b ∧ zzI Mm1 38 (26 * w + f) = nI i ∧ i < 600 ∧ qB S1 Mc1 Mm1 w T N q2 2 (s + 1) h b i j ∧ odM Mm1 w j = 19 ∧ j < m2 ∧ ∀ l ∈ L ++ [S.2.1], l ≤ s ∨ h ≤ l := by
  rcases H f hf with ⟨h1, h2⟩ | ⟨h, s, i, j, b, k1, k2, k3, k4, k5, k6, k7, k8, k9, k10, k11, k12, k13⟩
  · exact Or.inl ⟨hF.trans h1, h38.trans h2⟩
  · have hbs := hblo s k6 k5
    have hlast : ∀ a, L.getLast? = some a → a ≤ s ∨ h ≤ a := fun a ha => k13 a (List.mem_of_getLast? ha)
    have hs1 : S.2.1 ≤ S1.2.1 := g.1
    refine Or.inr ⟨h, s, i, j, b, hF.trans k1, k2, k3, by omega, by unfold zzk; rw [g.2.2 s (by omega)]; exact k5, k6, ?_, h38.trans k8, k9, ?_, ?_, by omega, ?_⟩
    · rw [hR s 6 k2 (by omega) (by omega) (by omega) (fun hh => absurd hh.2 (by omega))]; exact k7
    · refine qB.go hq ⟨hs1, fun a g1 g2 => ⟨g.2.2 a (by omega), fun k => hI a k (by omega) (by omega), fun k => hR a k (by omega) (by omega) (by omega) (by omega) (fun hh => ?_)⟩⟩ (hm.mo (by omega) (by omega)) k10
      have := hlast a hh.1
      omega
    · have := (k10.le).2.1
      rw [odM, hm.1 32 j (by omega) (by omega) (by omega) k12]; exact k11
    · intro l hl
      rcases List.mem_append.mp hl with hl | hl
      · exact k13 l hl
      · simp at hl; omega
/-- a function told at the top -/
def fO (S : zzS) (T : Nat → Nat) (N w i m q tl fu : Nat) (Mc Mm : zzM) (x : Option (Option Nat × zzS × zzM)) (G : Nat → Option (Int32 × zzM)) : Prop := ∃ S1 Mc1 Mm1 i2 m2 q2 t2 k f, x = some (some S.2.1, S1, Mc1) ∧ gS S S1 ∧ fcZ fu S.2.1 Mc Mc1 ∧ cQ S1 Mc1 T N i2 t2 fu ∧ zzR Mc1 S.2.1 8 = none ∧ (∀ f, G (f + k) = rd f Mm1) ∧ mQ Mm1 T N w i2 m2 q2 t2 0 ∧ frZ w Mm Mm1 ∧ agM w q 0 m Mm Mm1 ∧ qS (qB S1 Mc1 Mm1 w T N q2 2) (2 = 2) S1 Mc1 Mm1 w T N q2 S1.2.1 S.2.1 m m2 ∧ i < i2 ∧ m2 ≤ m + (i2 - i) ∧ q ≤ q2 ∧ q2 ≤ q + (i2 - i) ∧ tl < t2 ∧ grw S S1 tl t2 i i2 0 ∧ k + 1 ≤ i2 - i ∧ f < 26 ∧ (∀ k, k ≠ f → zzR Mc1 fu k = zzR Mc fu k) ∧ (∀ k, k < 26 → k ≠ f → zzI Mm1 38 (26 * w + k) = zzI Mm 38 (26 * w + k)) ∧ zzR Mc1 fu f = some S.2.1 ∧ ∃ b j, zzR Mc1 S.2.1 6 = some b ∧ zzI Mm1 38 (26 * w + f) = nI (m + 1) ∧ qB S1 Mc1 Mm1 w T N q2 2 (S.2.1 + 1) S1.2.1 b (m + 1) j ∧ odM Mm1 w j = 19 ∧ j < m2
theorem r_fun {S : zzS} {Mc Mm : zzM} {T : Nat → Nat} {N w i m q tl fu n : Nat} {L : List Nat} (hB : rBk T N w fu n 1) (hc : cQ S Mc T N i tl fu) (hm : mQ Mm T N w i m q tl 0) (ht : tl < 100) (hmi : m ≤ i) (hqi : q ≤ i) (hx : chT T N i = 58) (hfn : fnQ S Mc Mm T N w q m fu L) : fO S T N w i m q tl fu Mc Mm (FD_Rd_statement (n + 3) S Mc 23 (nI 0)) (fun f => zzcall (F_Md_readStatement lwSm Mm 28) (fun _ M => rd f M)) ∨ rF S N w i tl fu 0 Mc Mm (FD_Rd_statement (n + 3) S Mc 23 (nI 0)) (fun f => zzcall (F_Md_readStatement lwSm Mm 28) (fun _ M => rd f M)) := by
  by_cases hF : 65 ≤ chT T N (i + 1) ∧ chT T N (i + 1) ≤ 90
  · have hN := hc.1.2.2.2.2.1
    have hiN := hc.2.2.1
    have hok := hm.1.ok
    have hw := hm.1.2.2.1
    have hS := hc.1.1
    have hS63 := hS.2.2.2
    have hsh : shN (chT T N i) = 9 := by rw [hx]; decide
    have hkd : kdN (chT T N i) = 58 := by rw [hx]; decide
    have hlt := chT_lt (T := T) (N := N) (i := i) (by omega)
    have hlt1 := chT_lt (T := T) (N := N) (i := i + 1) (by omega)
    obtain ⟨b1, b2, b3, b4, b5, b6⟩ := cbg_f (kd := kdN (chT T N i)) (op := opN (chT T N i)) hc ht (by omega) (by omega)
    have hfu : 63 ≤ fu ∧ fu < S.2.1 ∧ zzk S fu = 4 ∧ zzn S fu = 26 := ⟨hc.2.2.2.2.2.2.2.1, hc.2.2.2.2.2.2.2.2.1, hc.2.2.2.2.2.2.2.2.2.1, hc.2.2.2.2.2.2.2.2.2.2⟩
    have hzn := gS_new S 13 0 9
    have hzk : zzk (zznew S 13 0 9) S.2.1 = 13 := by unfold zzk zznew; simp
    have hzl : S.2.1 < (zznew S 13 0 9).2.1 := by show S.2.1 < S.2.1 + 1; omega
    have hl9 : zzsl 9 = 2 := by decide
    have hz1 : (zznew S 13 0 9).2.1 = S.2.1 + 1 := rfl
    have hz2 : (zznew S 13 0 9).2.2 = S.2.2 + 9 := rfl
    have hm1 := (hm.tl (tl + 1)).at (i + 1)
    have hpk := m_peek hm1.1 hm1.2.1 (show i + 1 < 1000 by omega)
    have hch := chT_le hok (i + 1)
    have hzz0 : zzokZ 0 = true := by decide
    have hzz1 : zzokZ 1 = true := by decide
    have h16 : zzI (zzsI Mm 28 20 (nI (tl + 1))) 28 16 = nI i := hm.2.1
    obtain ⟨f, hf⟩ : ∃ f, f = chT T N (i + 1) - 65 := ⟨_, rfl⟩
    have hf26 : f < 26 := by omega
    have e65 : nI (chT T N (i + 1)) - (65 : Int32) = nI f := by rw [hf]; exact psub (b := 65) hF.1
    have ec1 : chM T N (i + 1) = nI (chT T N (i + 1)) := by unfold chM; rw [if_pos hlt1.1, hlt1.2]
    have e65m : chM T N (i + 1) - (65 : Int32) = nI f := by rw [ec1]; exact e65
    have hfuz := hzn.k hfu.2.1 hfu.2.2.1
    have hfun : zzn (zznew S 13 0 9) fu = 26 := by unfold zzn; rw [hzn.2.2 fu hfu.2.1]; exact hfu.2.2.2
    have hcfu : ∀ k, zzR (cbg S Mc (kdN (chT T N i)) (opN (chT T N i)) i tl (lnT (fun i => nI (T i)) i)) fu k = zzR Mc fu k := fun k => b2.2.1 fu k hfu.2.1
    have enf : F_Rd_newFunction (zznew S 13 0 9) (cbg S Mc (kdN (chT T N i)) (opN (chT T N i)) i tl (lnT (fun i => nI (T i)) i)) 23 (some S.2.1) (nI 0) = zzopt (zznew S 13 0 9) 13 (zzR Mc fu f) (some (1, zzsI (zzsR (zzsI (cbg S Mc (kdN (chT T N i)) (opN (chT T N i)) i tl (lnT (fun i => nI (T i)) i)) S.2.1 3 (nI f)) fu f (some S.2.1)) 23 2 (nI (i + 1 + 1)))) (fun _ => some (0, zzsI (zzsI (cbg S Mc (kdN (chT T N i)) (opN (chT T N i)) i tl (lnT (fun i => nI (T i)) i)) S.2.1 3 (nI f)) 23 2 (nI i))) := by
      have z1 : zzI (zzsI (cbg S Mc (kdN (chT T N i)) (opN (chT T N i)) i tl (lnT (fun i => nI (T i)) i)) S.2.1 3 (nI f)) S.2.1 3 = nI f := by simp [plet, pcall, pck, pI_I, pI_L, pI_R, pL_I, pL_L, pL_R, pR_I, pR_L, pR_R]
      have z2 : zzI (zzsI (cbg S Mc (kdN (chT T N i)) (opN (chT T N i)) i tl (lnT (fun i => nI (T i)) i)) S.2.1 3 (nI f)) S.2.1 1 = nI i := by
        rw [pI_I, if_pos rfl, if_neg (by decide)]; exact b5.2.2.2.2.1
      have z3 : zzR (zzsI (cbg S Mc (kdN (chT T N i)) (opN (chT T N i)) i tl (lnT (fun i => nI (T i)) i)) S.2.1 3 (nI f)) 23 5 = some fu := b1.2.2.2.2.2.2.1
      have z4 : zzR (zzsI (cbg S Mc (kdN (chT T N i)) (opN (chT T N i)) i tl (lnT (fun i => nI (T i)) i)) S.2.1 3 (nI f)) fu f = zzR Mc fu f := hcfu f
      have z5 : zzI (zzsR (zzsI (cbg S Mc (kdN (chT T N i)) (opN (chT T N i)) i tl (lnT (fun i => nI (T i)) i)) S.2.1 3 (nI f)) fu f (some S.2.1)) 23 2 = nI (i + 1) := by
        show zzI (zzsI (cbg S Mc (kdN (chT T N i)) (opN (chT T N i)) i tl (lnT (fun i => nI (T i)) i)) S.2.1 3 (nI f)) 23 2 = _
        rw [pI_I, if_neg (by omega)]; exact b1.2.1
      unfold F_Rd_newFunction
      rw [c_peek b1.1 b1.2.1 b1.2.2.1, pcall, c_isFun _ _ (show chT T N (i + 1) < 1000 by omega), if_pos hF, pcall, if_neg (by decide), plet, e65, poptp hzl hzk, plet, if_neg (by decide), plet, z1, z3, prefp hfuz.1 hfuz.2, plet, hfun, if_neg (show ¬ Int32.ofNat 26 ≤ nI f from nI_ge hf26 (by omega)), prefp hfuz.1 hfuz.2, plet, pix hfun hf26 (by omega), pnI (show f < 100000 by omega), plet, z4, prefp hfuz.1 hfuz.2, plet, pix hfun hf26 (by omega), pnI (show f < 100000 by omega), plet, z5, plet, plet, plet, z2, plet, plet, ← nI_succ]
    have hfrI : frR w m q 0 Mm (zzsI (zzsI Mm 28 20 (nI (tl + 1))) 28 16 (nI (i + 1))) := (frR_s (by omega)).tr (frR_s (by omega)) (Nat.le_refl _) (Nat.le_refl _) (Nat.le_refl _)
    have h38r : zzI (zzsI (zzsI Mm 28 20 (nI (tl + 1))) 28 16 (nI (i + 1))) 38 (26 * w + f) = zzI Mm 38 (26 * w + f) := rfl
    rcases hfn f hf26 with ⟨n1, n2⟩ | ⟨h, s, i9, j9, b9, k1, k2, k3, k4, k5, k6, k7, k8, k9, k10, k11, k12, k13⟩
    · -- not told yet
      rw [n1, poptn] at enf
      have hpF : FD_Rd_part (n + 2) (zznew S 13 0 9) (cbg S Mc (kdN (chT T N i)) (opN (chT T N i)) i tl (lnT (fun i => nI (T i)) i)) 23 (some S.2.1) 70 (nI 0) = some (1, zznew S 13 0 9, zzsI (zzsR (zzsI (cbg S Mc (kdN (chT T N i)) (opN (chT T N i)) i tl (lnT (fun i => nI (T i)) i)) S.2.1 3 (nI f)) fu f (some S.2.1)) 23 2 (nI (i + 1 + 1))) := by
        rw [p_F, enf, pcall, hzz1, pck]
      have hm2 := (hm1.at (i + 2)).order (kd := 17) (wh := nI i) (show m < 600 by omega)
      have hrc3 : mQ (zzsI (moM (zzsI (zzsI (zzsI Mm 28 20 (nI (tl + 1))) 28 16 (nI (i + 1))) 28 16 (nI (i + 2))) w m 17 (nI i)) 38 (26 * w + f) (nI (m + 1))) T N w (i + 2) (m + 1) q (tl + 1) 0 := by
        obtain ⟨⟨r1, r2, r3, r4, r5, r6⟩, m2, m3, m4, m5, m6, m7⟩ := hm2
        have e : ∀ a k, a ≠ 38 → zzI (zzsI (moM (zzsI (zzsI (zzsI Mm 28 20 (nI (tl + 1))) 28 16 (nI (i + 1))) 28 16 (nI (i + 2))) w m 17 (nI i)) 38 (26 * w + f) (nI (m + 1))) a k = zzI (moM (zzsI (zzsI (zzsI Mm 28 20 (nI (tl + 1))) 28 16 (nI (i + 1))) 28 16 (nI (i + 2))) w m 17 (nI i)) a k := fun a k ha => by rw [pI_I, if_neg ha]
        exact ⟨⟨r1, (e 28 15 (by omega)).trans r2, r3, (e 28 1 (by omega)).trans r4, r5, fun x hx => ⟨(e 29 x (by omega)).trans (r6 x hx).1, (r6 x hx).2⟩⟩, (e 28 16 (by omega)).trans m2, (e 28 17 (by omega)).trans m3, (e 28 18 (by omega)).trans m4, (e 28 19 (by omega)).trans m5, (e 28 20 (by omega)).trans m6, (e 28 21 (by omega)).trans m7⟩
      obtain ⟨v1, v2, v3, v4, v5, v6⟩ := moM_v (M := zzsI (zzsI (zzsI Mm 28 20 (nI (tl + 1))) 28 16 (nI (i + 1))) 28 16 (nI (i + 2))) (w := w) (m := m) (kd := 17) (wh := nI i)
      have hfrM : frR w m q 0 Mm (moM (zzsI (zzsI (zzsI Mm 28 20 (nI (tl + 1))) 28 16 (nI (i + 1))) 28 16 (nI (i + 2))) w m 17 (nI i)) := (hfrI.tr (frR_s (by omega)) (Nat.le_refl _) (Nat.le_refl _) (Nat.le_refl _)).tr (moM_f (by omega)) (Nat.le_refl _) (Nat.le_refl _) (Nat.le_refl _)
      have hfrZ : frZ w Mm (zzsI (moM (zzsI (zzsI (zzsI Mm 28 20 (nI (tl + 1))) 28 16 (nI (i + 1))) 28 16 (nI (i + 2))) w m 17 (nI i)) 38 (26 * w + f) (nI (m + 1))) := hfrM.Z.tr ⟨fun b k h1 h2 _ => by rw [pI_I, if_neg (by omega)], fun b k h1 _ => by rw [pI_I, if_neg (by omega)], fun k h1 => by rw [pI_I, if_pos rfl, if_neg (by omega)], fun b k h1 _ => by rw [pI_I, if_neg (by omega)], rfl⟩
      have hmf : F_Md_readFunction lwSm (zzsI Mm 28 20 (nI (tl + 1))) 28 (nI i) = F_Md_open lwSm (zzsI (moM (zzsI (zzsI (zzsI Mm 28 20 (nI (tl + 1))) 28 16 (nI (i + 1))) 28 16 (nI (i + 2))) w m 17 (nI i)) 38 (26 * w + f) (nI (m + 1))) 28 7 (nI 123) (nI m) := by
        have hR1 : mdR (zzsI (zzsI Mm 28 20 (nI (tl + 1))) 28 16 (nI (i + 1))) := hm1.1.1
        have hx38 : ∀ x : Option (Unit × zzM), zzix lwSm 38 (nI (26 * w + f)) x = x := fun x => pix (S := lwSm) mn_38 (by omega) (by omega) x
        unfold F_Md_readFunction
        rw [h16, plet, plet, plet, ← nI_succ, hpk, pcall, plet, hpk, pcall, m_isFun_y hok _ _ hF, pcall, if_neg (by decide), hm1.2.2.2.2.2.2, plet, if_neg (by decide), mR_12 hR1, mr_38, hm1.1.2.1, plet, plet, e65m, plet, e26, hx38, pnI (show 26 * w + f < 100000 by omega), plet, h38r, n2, if_pos rfl, hm1.2.1, plet, plet, plet, ← nI_succ, m_order (hm1.at (i + 2)).1 (hm1.at (i + 2)).2.2.2.1 (show m < 600 by omega), pcall, mR_12 hm2.1.1, mr_38, hm2.1.2.1, plet, plet, plet, e26, v4, plet, hx38, pnI (show 26 * w + f < 100000 by omega), plet]
        exact zc_u _
      have hcq : cQ (zznew S 13 0 9) (zzsI (zzsR (zzsI (cbg S Mc (kdN (chT T N i)) (opN (chT T N i)) i tl (lnT (fun i => nI (T i)) i)) S.2.1 3 (nI f)) fu f (some S.2.1)) 23 2 (nI (i + 1 + 1))) T N (i + 2) (tl + 1) fu := by
        obtain ⟨⟨r1, r2, r3, r4, r5, r6⟩, c2, c3, c4, c5, c6, c7, c8, c9, c10, c11⟩ := b1
        have eI : ∀ a k, a ≠ S.2.1 → ¬ (a = 23 ∧ k = 2) → zzI (zzsI (zzsR (zzsI (cbg S Mc (kdN (chT T N i)) (opN (chT T N i)) i tl (lnT (fun i => nI (T i)) i)) S.2.1 3 (nI f)) fu f (some S.2.1)) 23 2 (nI (i + 1 + 1))) a k = zzI (cbg S Mc (kdN (chT T N i)) (opN (chT T N i)) i tl (lnT (fun i => nI (T i)) i)) a k := fun a k h1 h2 => by
          simp only [plet, pcall, pck, pI_I, pI_L, pI_R, pL_I, pL_L, pL_R, pR_I, pR_L, pR_R]
          rw [if_neg h1]
          by_cases ha : a = 23
          · rw [if_pos ha, if_neg (fun e => h2 ⟨ha, e⟩)]
          · rw [if_neg ha]
        have eR : ∀ a k, a ≠ fu → zzR (zzsI (zzsR (zzsI (cbg S Mc (kdN (chT T N i)) (opN (chT T N i)) i tl (lnT (fun i => nI (T i)) i)) S.2.1 3 (nI f)) fu f (some S.2.1)) 23 2 (nI (i + 1 + 1))) a k = zzR (cbg S Mc (kdN (chT T N i)) (opN (chT T N i)) i tl (lnT (fun i => nI (T i)) i)) a k := fun a k h1 => by
          simp only [plet, pcall, pck, pI_I, pI_L, pI_R, pL_I, pL_L, pL_R, pR_I, pR_L, pR_R]
          rw [if_neg h1]
        refine ⟨⟨r1, fun y hy => ?_, (eR 23 0 (by omega)).trans r3, (eI 23 1 (by omega) (by omega)).trans r4, r5, fun x hx => ⟨(eI 1 x (by omega) (by omega)).trans (r6 x hx).1, (r6 x hx).2⟩⟩, by simp [plet, pcall, pck, pI_I, pI_L, pI_R, pL_I, pL_L, pL_R, pR_I, pR_L, pR_R], by omega, ?_, (eI 23 4 (by omega) (by omega)).trans c5, c6, (eR 23 5 (by omega)).trans c7, c8, c9, c10, c11⟩
        · have hs2 : ∀ y ∈ lwrc, y.1 < 63 := by decide
          have := hs2 y hy
          rw [eR y.1 y.2.1 (by omega)]
          exact r2 y hy
        · rw [eI 23 3 (by omega) (by omega), c4, ln_nn hok (show i + 1 ≤ i + 2 by omega) (by omega) (nn_1 (N := N) (i := i + 1) (by omega) (by omega))]
      have hfcz : fcZ fu S.2.1 Mc (zzsI (zzsR (zzsI (cbg S Mc (kdN (chT T N i)) (opN (chT T N i)) i tl (lnT (fun i => nI (T i)) i)) S.2.1 3 (nI f)) fu f (some S.2.1)) 23 2 (nI (i + 1 + 1))) := by
        refine ((b2.tr (M2 := zzsI (cbg S Mc (kdN (chT T N i)) (opN (chT T N i)) i tl (lnT (fun i => nI (T i)) i)) S.2.1 3 (nI f)) (fcN_n (Nat.le_refl _)) (Nat.le_refl _)).Z.tr (n1 := S.2.1) ?_ (Nat.le_refl _)).tr (fcN_23 (n0 := S.2.1) (by omega)).Z (Nat.le_refl _)
        exact ⟨fun _ _ _ _ _ => rfl, fun a k _ h2 => by rw [pR_R, if_neg h2], fun _ _ _ => rfl⟩
      rcases r_encl (n := n) (d := 0) (br := 123) (ec := 125) (kd := 7) (ov := nI m) (fun _ => hB) hcq hrc3 (by omega) (by omega) (by omega) (Or.inr ⟨rfl, rfl, by decide⟩) with ⟨S1, Mc1, Mm1, i2, m2, q2, t2, k, a1, a2, a3, a4, a5, a6, a7, a8, a9, a10, a11, a12, a13, a14, a15, a16, a17, a18, a19⟩ | H
      · left
        have hi2N := a4.2.2.1
        have hs1 := a2.k hzl hzk
        have hb1 : S.2.1 + 1 < S1.2.1 ∧ zzk S1 (S.2.1 + 1) = 12 := ⟨a11.2.1, a11.2.2.1.2.1⟩
        have hst : FD_Rd_statement (n + 3) S Mc 23 (nI 0) = some (some S.2.1, S1, zzsR Mc1 S.2.1 6 (some (S.2.1 + 1))) := by
          refine c_stmt0 hc ht (by rw [hsh]; omega) ?_ a2
          rw [hsh]
          refine s58_y (q := 1999) (c := 70) hcq.1.1 (by omega) (by rw [hl9]; omega) (by omega) (by rw [hl9]; omega) (by decide) hpF (gS.rf _) ?_ a2
          exact s58_y (q := 1998) (c := 66) a4.1.1 (by omega) (by rw [hl9]; omega) (by omega) (by rw [hl9]; omega) (by decide) (p_blk (Or.inl ⟨rfl, rfl⟩) hs1.1 hs1.2 hb1.1 hb1.2 a2 a1) a2 (s58_end (q := 1997) (by omega) (by rw [hl9]) (by omega)) (gS.rf _)
        have hp : plM Mm1 w m = nI i := by
          rw [plM, a7.1 33 _ (by omega) (by omega) (by omega), pI_I, if_neg (by decide)]
          exact v2
        have ho : odM Mm1 w m = 17 := by
          rw [odM, a7.1 32 _ (by omega) (by omega) (by omega), pI_I, if_neg (by decide)]
          exact v1
        obtain ⟨c1, c2⟩ := a6.cl
        have hm26 : m2 < 600 := (a11.le).2.1
        have c3 := c1.order (kd := 19) (wh := nI i) hm26
        obtain ⟨u1, u2, u3, u4, u5, u6⟩ := moM_v (M := mcl Mm1 i2 0) (w := w) (m := m2) (kd := 19) (wh := nI i)
        have hcl : F_Md_close lwSm Mm1 28 = some ((), zzsI (moM (mcl Mm1 i2 0) w m2 19 (nI i)) 37 (600 * w + m) (nI (m2 + 1))) := by
          rw [m_close a6 a10 a8 a9 (by omega) hp]
          unfold mcK
          rw [if_neg (by decide), if_neg (by decide), if_neg (by decide), if_neg (by decide), if_neg (by decide), if_neg (by decide), m_order c1.1 c1.2.2.2.1 hm26, pcall, m_aim c3.1 (show m < 600 by omega), pcall, u4]
        have hI : ∀ j, j ≠ 3 → zzI (zzsR Mc1 S.2.1 6 (some (S.2.1 + 1))) S.2.1 j = zzI (cbg S Mc (kdN (chT T N i)) (opN (chT T N i)) i tl (lnT (fun i => nI (T i)) i)) S.2.1 j := fun j hj => by
          show zzI Mc1 S.2.1 j = _
          rw [a3.1 S.2.1 j hzl (by omega) (by omega), pI_I, if_neg (by omega)]
          show zzI (zzsI (cbg S Mc (kdN (chT T N i)) (opN (chT T N i)) i tl (lnT (fun i => nI (T i)) i)) S.2.1 3 (nI f)) S.2.1 j = _
          rw [pI_I, if_pos rfl, if_neg hj]
        have hor : ∀ a j, 32 ≤ a → a ≤ 37 → j ≠ m2 → (a ≠ 37 ∨ j ≠ m) → zzI (zzsI (moM (mcl Mm1 i2 0) w m2 19 (nI i)) 37 (600 * w + m) (nI (m2 + 1))) a (600 * w + j) = zzI Mm1 a (600 * w + j) := fun a j g1 g2 g3 g4 => by
          rw [pI_I]
          by_cases h37 : a = 37
          · rw [if_pos h37, if_neg (by omega)]
            exact (u6 a j g1 g2 g3).trans (mcl_o (by omega))
          · rw [if_neg h37]
            exact (u6 a j g1 g2 g3).trans (mcl_o (by omega))
        have hco : ∀ a j, a = 39 ∨ a = 40 → zzI (zzsI (moM (mcl Mm1 i2 0) w m2 19 (nI i)) 37 (600 * w + m) (nI (m2 + 1))) a j = zzI Mm1 a j := fun a j g1 => by
          rw [pI_I, if_neg (by omega), moM_c g1]
          exact mcl_o (by omega)
        have h38a : ∀ k, zzI (zzsI (moM (mcl Mm1 i2 0) w m2 19 (nI i)) 37 (600 * w + m) (nI (m2 + 1))) 38 k = zzI (zzsI (moM (zzsI (zzsI (zzsI Mm 28 20 (nI (tl + 1))) 28 16 (nI (i + 1))) 28 16 (nI (i + 2))) w m 17 (nI i)) 38 (26 * w + f) (nI (m + 1))) 38 k := fun k => by
          rw [pI_I, if_neg (by decide), (moM_f (q := 0) (d := 0) hm26).2.2.2.1 38 k (by omega) (by omega) (by omega), mcl_o (by omega)]
          exact a7.2.2.2.1 38 k (by omega) (by omega) (by omega)
        have hqB : qB S1 (zzsR Mc1 S.2.1 6 (some (S.2.1 + 1))) (zzsI (moM (mcl Mm1 i2 0) w m2 19 (nI i)) 37 (600 * w + m) (nI (m2 + 1))) w T N q2 2 (S.2.1 + 1) S1.2.1 (S.2.1 + 1) (m + 1) m2 := qB.go (S := S1) (Mc := Mc1) (Mm := Mm1) (Nat.le_refl q2) (agC_s (by omega)) ⟨fun a j g1 g2 g3 g4 => hor a j g1 g2 (by omega) (by omega), fun a j g1 _ => hco a _ g1⟩ a11
        have hfu1 : ∀ k, zzR (zzsR Mc1 S.2.1 6 (some (S.2.1 + 1))) fu k = zzR (zzsI (zzsR (zzsI (cbg S Mc (kdN (chT T N i)) (opN (chT T N i)) i tl (lnT (fun i => nI (T i)) i)) S.2.1 3 (nI f)) fu f (some S.2.1)) 23 2 (nI (i + 1 + 1))) fu k := fun k => by
          rw [pR_R, if_neg (by omega)]
          exact a3.2.1 fu k hfuz.1
        have hfrAll : frZ w Mm (zzsI (moM (mcl Mm1 i2 0) w m2 19 (nI i)) 37 (600 * w + m) (nI (m2 + 1))) := ((hfrZ.tr a7.Z).tr c2.Z).tr ((moM_f (q := q) (d := 0) hm26).Z.tr (frR_o (m := m) (q := q) (d := 0) (by omega) (Nat.le_refl m) (by omega)).Z)
        have hag : agM w q 0 m Mm (zzsI (moM (mcl Mm1 i2 0) w m2 19 (nI i)) 37 (600 * w + m) (nI (m2 + 1))) := ⟨fun a j g1 g2 _ g4 => by
          rw [hor a j g1 g2 (by omega) (by omega), a7.1 a _ g1 g2 (by omega), pI_I, if_neg (by omega)]
          exact hfrM.1 a _ g1 g2 (by omega), fun a j g1 g2 => by
          rw [hco a _ g1, a7.2.1 a _ g1 (by omega), pI_I, if_neg (by omega)]
          exact hfrM.2.1 a _ g1 (by omega)⟩
        have hfcA : fcZ fu S.2.1 Mc (zzsR Mc1 S.2.1 6 (some (S.2.1 + 1))) := (hfcz.tr a3.Z (by omega)).tr (fcN_r (n0 := S.2.1) (Nat.le_refl _)).Z (Nat.le_refl _)
        refine ⟨S1, _, _, i2 + 1, m2 + 1, q2, t2, k, f, hst, hzn.tr a2, hfcA, a4.w (by omega), ?_, fun f => ?_, c3.ord (a := 37) (k := m) (v := nI (m2 + 1)) (by omega) (by omega), hfrAll, hag, ⟨by omega, by omega, by omega, i, ?_, ?_, Or.inr (Or.inr (Or.inr (Or.inr (Or.inr (Or.inr (Or.inr (Or.inr (Or.inr ⟨rfl, ?_, ?_, ?_⟩))))))))⟩, by omega, by omega, by omega, by omega, by omega, ⟨by have := a18.1; omega, by have := a18.2; omega⟩, by omega, hf26, fun k hk => ?_, fun k hk1 hk2 => ?_, ?_, S.2.1 + 1, m2, ?_, ?_, hqB, ?_, by omega⟩
        · rw [pR_R, if_pos rfl, if_neg (by decide), a3.2.1 S.2.1 8 hzl, pR_I, pR_R, if_neg (by omega)]
          exact b6 8
        · show zzcall (F_Md_readStatement lwSm Mm 28) (fun _ M => rd (f + k) M) = _
          rw [m_rs_58 hm (by omega) ht hx, hmf]
          refine (a5 f).trans ?_
          rw [hcl, pcall]
        · obtain ⟨s1, s2, s3, s4, s5, s6⟩ := b5
          exact ⟨s1, (a2.k s2 s3).1, (a2.k s2 s3).2, s4, (hI 1 (by omega)).trans s5, (hI 2 (by omega)).trans s6⟩
        · rw [plM, hor 33 m (by omega) (by omega) (by omega) (by omega)]; exact hp
        · rw [hI 0 (by omega), b3, hkd]
        · rw [odM, hor 32 m (by omega) (by omega) (by omega) (by omega)]; exact ho
        · simp [tgM, pI_I]
        · rw [hfu1 k, pR_I, pR_R, if_pos rfl, if_neg hk]
          exact hcfu k
        · rw [h38a, pI_I, if_pos rfl, if_neg (by omega)]
          exact hfrM.2.2.2.1 38 _ (by omega) (by omega) (by omega)
        · rw [hfu1 f, pR_I, pR_R, if_pos rfl, if_pos rfl]
        · simp [plet, pcall, pck, pI_I, pI_L, pI_R, pL_I, pL_L, pL_R, pR_I, pR_L, pR_R]
        · rw [h38a, pI_I, if_pos rfl, if_pos rfl]
        · simp only [odM, pI_I]
          rw [if_neg (by decide)]
          exact u1
      · right
        refine H.up (S := S) (k := 6) (s := S.2.1) (k0 := 0) (tl := tl) hzn hfcz hfrZ (Nat.le_refl _) (by omega) (fun S1 Mc1 g1 z1 => ?_) (fun f => ?_) (by omega) (by omega) (by omega) (by omega) (by omega)
        · refine c_stmt0 hc ht (by rw [hsh]; omega) ?_ g1
          rw [hsh]
          refine s58_y (q := 1999) (c := 70) hcq.1.1 (by omega) (by rw [hl9]; omega) (by omega) (by rw [hl9]; omega) (by decide) hpF (gS.rf _) ?_ g1
          have hs1 := g1.k hzl hzk
          exact s58_n (q := 1998) (c := 66) (by omega) (by rw [hl9]; omega) (by omega) (by rw [hl9]; omega) (by decide) (p_blk_n (Or.inl ⟨rfl, rfl⟩) hs1.1 hs1.2 g1 z1) g1
        · show zzcall (F_Md_readStatement lwSm Mm 28) (fun _ M => rd (f + 0) M) = _
          rw [m_rs_58 hm (by omega) ht hx, hmf]
          rfl
    · -- told already
      right
      have hk5 := hzn.k (show s < S.2.1 by omega) k5
      rw [k1, poptp hk5.1 hk5.2] at enf
      have hst : FD_Rd_statement (n + 3) S Mc 23 (nI 0) = some (none, zznew S 13 0 9, zzsI (zzsI (cbg S Mc (kdN (chT T N i)) (opN (chT T N i)) i tl (lnT (fun i => nI (T i)) i)) S.2.1 3 (nI f)) 23 2 (nI i)) := by
        refine c_stmt0 hc ht (by rw [hsh]; omega) ?_ (gS.rf _)
        rw [hsh]
        refine s58_n (q := 1999) (c := 70) (by omega) (by rw [hl9]; omega) (by omega) (by rw [hl9]; omega) (by decide) ?_ (gS.rf _)
        rw [p_F, enf, pcall, hzz0, pck]
      have hmf : F_Md_readFunction lwSm (zzsI Mm 28 20 (nI (tl + 1))) 28 (nI i) = some ((), zzsI (zzsI (zzsI Mm 28 20 (nI (tl + 1))) 28 16 (nI (i + 1))) 28 17 (nI i)) := by
        have hR1 : mdR (zzsI (zzsI Mm 28 20 (nI (tl + 1))) 28 16 (nI (i + 1))) := hm1.1.1
        have hx38 : ∀ x : Option (Unit × zzM), zzix lwSm 38 (nI (26 * w + f)) x = x := fun x => pix (S := lwSm) mn_38 (by omega) (by omega) x
        unfold F_Md_readFunction
        rw [h16, plet, plet, plet, ← nI_succ, hpk, pcall, plet, hpk, pcall, m_isFun_y hok _ _ hF, pcall, if_neg (by decide), hm1.2.2.2.2.2.2, plet, if_neg (by decide), mR_12 hR1, mr_38, hm1.1.2.1, plet, plet, e65m, plet, e26, hx38, pnI (show 26 * w + f < 100000 by omega), plet, h38r, k8, if_neg (nI_m1 (by omega)), plet]
      refine rF_w (t2 := tl + 1) (y := i) (p := i) hst hzn ((b2.tr (fcN_n (Nat.le_refl _)) (Nat.le_refl _)).tr (fcN_23 (by omega)) (Nat.le_refl _)).Z (by simp [plet, pcall, pck, pI_I, pI_L, pI_R, pL_I, pL_L, pL_R, pR_I, pR_L, pR_R]) hiN (Mm1 := zzsI (zzsI (zzsI Mm 28 20 (nI (tl + 1))) 28 16 (nI (i + 1))) 28 17 (nI i)) (fun f => ?_) (by simp [plet, pcall, pck, pI_I, pI_L, pI_R, pL_I, pL_L, pL_R, pR_I, pR_L, pR_R]) (by omega) (hfrI.Z.tr (frR_s (m := m) (q := q) (d := 0) (by omega)).Z) (by omega) (by omega) (Nat.le_refl _) hiN ⟨by omega, by omega⟩
      show zzcall (F_Md_readStatement lwSm Mm 28) (fun _ M => rd f M) = _
      rw [m_rs_58 hm (by omega) ht hx, hmf, pcall]
  · exact Or.inr (r_colon (n := n + 1) hc hm ht (Or.inr hF) (by omega) hx)
