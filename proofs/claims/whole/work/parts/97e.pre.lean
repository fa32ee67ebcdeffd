/-! statements: how one begins, how reading ends -/
def shN (x : Nat) : Nat := if 97 ≤ x ∧ x ≤ 122 then 0 else if 65 ≤ x ∧ x ≤ 90 then 1 else if x = 33 then 4 else if x = 38 then 4 else if x = 39 then 3 else if x = 42 then 6 else if x = 43 then 4 else if x = 58 then 9 else if x = 60 then 4 else if x = 63 then 5 else if x = 64 then 2 else if x = 91 then 7 else if x = 94 then 4 else if x = 124 then 4 else if x = 126 then 8 else 10
theorem c_shapeOf {S : zzS} {M : zzM} {x : Nat} (hx : x < 128) : F_Rd_shapeOf S M (nI x) = some (shN x, S, M) := by
  have ne : ∀ v, v < 128 → x ≠ v → ¬ nI x = nI v := fun v hv h e => h ((peq (by omega) (by omega)).mp e)
  unfold F_Rd_shapeOf shN
  rw [c_isVar S M (show x < 1000 by omega), pcall]
  by_cases hv : 97 ≤ x ∧ x ≤ 122
  · rw [if_pos hv, if_pos hv, if_neg (by decide)]
  · rw [if_neg hv, if_neg hv, if_pos rfl, c_isFun S M (show x < 1000 by omega), pcall]
    by_cases hf : 65 ≤ x ∧ x ≤ 90
    · rw [if_pos hf, if_pos hf, if_neg (by decide)]
    · rw [if_neg hf, if_neg hf, if_pos rfl]
      by_cases h33 : x = 33
      · rw [if_pos (show nI x = (33 : Int32) by rw [h33]; rfl), if_pos h33]
      · rw [if_neg (show ¬ nI x = (33 : Int32) from ne 33 (by omega) h33), if_neg h33]
        by_cases h38 : x = 38
        · rw [if_pos (show nI x = (38 : Int32) by rw [h38]; rfl), if_pos h38]
        · rw [if_neg (show ¬ nI x = (38 : Int32) from ne 38 (by omega) h38), if_neg h38]
          by_cases h39 : x = 39
          · rw [if_pos (show nI x = (39 : Int32) by rw [h39]; rfl), if_pos h39]
          · rw [if_neg (show ¬ nI x = (39 : Int32) from ne 39 (by omega) h39), if_neg h39]
            by_cases h42 : x = 42
            · rw [if_pos (show nI x = (42 : Int32) by rw [h42]; rfl), if_pos h42]
            · rw [if_neg (show ¬ nI x = (42 : Int32) from ne 42 (by omega) h42), if_neg h42]
              by_cases h43 : x = 43
              · rw [if_pos (show nI x = (43 : Int32) by rw [h43]; rfl), if_pos h43]
              · rw [if_neg (show ¬ nI x = (43 : Int32) from ne 43 (by omega) h43), if_neg h43]
                by_cases h58 : x = 58
                · rw [if_pos (show nI x = (58 : Int32) by rw [h58]; rfl), if_pos h58]
                · rw [if_neg (show ¬ nI x = (58 : Int32) from ne 58 (by omega) h58), if_neg h58]
                  by_cases h60 : x = 60
                  · rw [if_pos (show nI x = (60 : Int32) by rw [h60]; rfl), if_pos h60]
                  · rw [if_neg (show ¬ nI x = (60 : Int32) from ne 60 (by omega) h60), if_neg h60]
                    by_cases h63 : x = 63
                    · rw [if_pos (show nI x = (63 : Int32) by rw [h63]; rfl), if_pos h63]
                    · rw [if_neg (show ¬ nI x = (63 : Int32) from ne 63 (by omega) h63), if_neg h63]
                      by_cases h64 : x = 64
                      · rw [if_pos (show nI x = (64 : Int32) by rw [h64]; rfl), if_pos h64]
                      · rw [if_neg (show ¬ nI x = (64 : Int32) from ne 64 (by omega) h64), if_neg h64]
                        by_cases h91 : x = 91
                        · rw [if_pos (show nI x = (91 : Int32) by rw [h91]; rfl), if_pos h91]
                        · rw [if_neg (show ¬ nI x = (91 : Int32) from ne 91 (by omega) h91), if_neg h91]
                          by_cases h94 : x = 94
                          · rw [if_pos (show nI x = (94 : Int32) by rw [h94]; rfl), if_pos h94]
                          · rw [if_neg (show ¬ nI x = (94 : Int32) from ne 94 (by omega) h94), if_neg h94]
                            by_cases h124 : x = 124
                            · rw [if_pos (show nI x = (124 : Int32) by rw [h124]; rfl), if_pos h124]
                            · rw [if_neg (show ¬ nI x = (124 : Int32) from ne 124 (by omega) h124), if_neg h124]
                              by_cases h126 : x = 126
                              · rw [if_pos (show nI x = (126 : Int32) by rw [h126]; rfl), if_pos h126]
                              · rw [if_neg (show ¬ nI x = (126 : Int32) from ne 126 (by omega) h126), if_neg h126]
def kdN (x : Nat) : Int32 := if 97 ≤ x ∧ x ≤ 122 then 97 else if 65 ≤ x ∧ x ≤ 90 then 65 else nI x
def opN (x : Nat) : Int32 := if 97 ≤ x ∧ x ≤ 122 then nI (x - 97) else if 65 ≤ x ∧ x ≤ 90 then nI (x - 65) else 0
def cb0 (S : zzS) (M : zzM) (kd op : Int32) (i ln : Nat) : zzM := zzsI (zzsI (zzsI (zzsI (zzclr M S.2.1) S.2.1 0 kd) S.2.1 3 op) S.2.1 1 (nI i)) S.2.1 2 (nI ln)
def cbg (S : zzS) (M : zzM) (kd op : Int32) (i tl ln : Nat) : zzM := zzsI (zzsI (cb0 S M kd op i ln) 23 4 (nI (tl + 1))) 23 2 (nI (i + 1))
theorem c_begun {S : zzS} {M : zzM} {T : Nat → Nat} {N i tl fu x : Nat} (h : cQ S M T N i tl fu) (hx : x < 128) : F_Rd_begun S M 23 (nI x) = some (some S.2.1, zznew S 13 0 9, cb0 S M (kdN x) (opN x) i (lnT (fun i => nI (T i)) i)) := by
  obtain ⟨c1, c2, c3, c4, c5, c6, c7⟩ := h
  have hS := c1.1
  have g := gS_new S 13 0 9
  have hS1 := g.cl hS
  have h63 := hS.2.2.2
  have z1 : zzI (zzclr M S.2.1) 23 2 = nI i := by simp only [zzI, zzclr]; rw [if_neg (by omega)]; exact c2
  have z2 : zzI (zzclr M S.2.1) 23 3 = nI (lnT (fun i => nI (T i)) i) := by simp only [zzI, zzclr]; rw [if_neg (by omega)]; exact c4
  have hok : ∀ y, y < 128 → zzokC (nI y) = true := by decide
  have key : ∀ (y : Nat) (op : Int32), y < 128 → zzmk S M 13 0 9 (fun b3 S M => zzck (zzhas S 23 17) (zzlet (zzI M 23 2) fun x4 => zzlet (zzI M 23 3) fun x5 => zzcall (F_St_init S M b3 (nI y) op x4 x5) fun r6 M => some (some b3, S, M))) = some (some S.2.1, zznew S 13 0 9, cb0 S M (nI y) op i (lnT (fun i => nI (T i)) i)) := fun y op hy => by
    refine pmk ?_ (gS.rf _)
    rw [phas (cl_23 hS1) (ck_23 hS1), pck, z1, z2, plet, plet]
    simp only [F_St_init, hok y hy, pck, plet, pcall]
    rfl
  unfold F_Rd_begun
  rw [c_isVar S M (show x < 1000 by omega), pcall]
  by_cases hv : 97 ≤ x ∧ x ≤ 122
  · have e1 : nI x - (97 : Int32) = nI (x - 97) := psub (b := 97) hv.1
    have ek : kdN x = nI 97 := if_pos hv
    have eo : opN x = nI (x - 97) := if_pos hv
    rw [if_pos hv, if_neg (by decide), ek, eo, e1]
    exact key 97 (nI (x - 97)) (by omega)
  · rw [if_neg hv, if_pos rfl, c_isFun S M (show x < 1000 by omega), pcall]
    by_cases hf : 65 ≤ x ∧ x ≤ 90
    · have e1 : nI x - (65 : Int32) = nI (x - 65) := psub (b := 65) hf.1
      have ek : kdN x = nI 65 := by unfold kdN; rw [if_neg hv, if_pos hf]; rfl
      have eo : opN x = nI (x - 65) := by unfold opN; rw [if_neg hv, if_pos hf]
      rw [if_pos hf, if_neg (by decide), ek, eo, e1]
      exact key 65 (nI (x - 65)) (by omega)
    · have ek : kdN x = nI x := by unfold kdN; rw [if_neg hv, if_neg hf]
      have eo : opN x = 0 := by unfold opN; rw [if_neg hv, if_neg hf]
      rw [if_neg hf, if_pos rfl, ek, eo]
      exact key x 0 hx
theorem cb0_N {S : zzS} {M : zzM} {kd op : Int32} {i ln : Nat} : fcN S.2.1 M (cb0 S M kd op i ln) := ((((fcN_clr (Nat.le_refl _)).tr (fcN_n (Nat.le_refl _)) (Nat.le_refl _)).tr (fcN_n (Nat.le_refl _)) (Nat.le_refl _)).tr (fcN_n (Nat.le_refl _)) (Nat.le_refl _)).tr (fcN_n (Nat.le_refl _)) (Nat.le_refl _)
theorem ln_nn {T : Nat → Nat} {N i : Nat} (hok : ∀ i, i < N → okc (T i)) : ∀ {j : Nat}, i ≤ j → j ≤ N → nn T i j → lnT (fun i => nI (T i)) j = lnT (fun i => nI (T i)) i
  | 0, h1, _, _ => by
    have : i = 0 := by omega
    rw [this]
  | j + 1, h1, h2, h => by
    by_cases he : i = j + 1
    · rw [he]
    · have hT := hok j (by omega)
      unfold okc at hT
      have hne : ¬ nI (T j) = 10 := fun e => h j (by omega) (by omega) ((peq (a := T j) (b := 10) (by omega) (by omega)).mp e)
      show lnT _ j + (if nI (T j) = 10 then 1 else 0) = _
      rw [if_neg hne, Nat.add_zero]
      exact ln_nn hok (by omega) (by omega) (fun k g1 g2 => h k g1 (by omega))
theorem cQ.N {S S1 : zzS} {M M1 : zzM} {T : Nat → Nat} {N i i2 tl t2 fu : Nat} (h : cQ S M T N i tl fu) (g : gS S S1) (f : fcN S.2.1 M M1) (h1 : zzI M1 23 2 = nI i2) (h2 : i ≤ i2) (h3 : i2 ≤ N) (h4 : nn T i i2) (h5 : zzI M1 23 3 = zzI M 23 3) (h6 : zzI M1 23 4 = nI t2) (h7 : t2 ≤ 100) : cQ S1 M1 T N i2 t2 fu := by
  obtain ⟨c1, c2, c3, c4, c5, c6, c7, c8, c9, c10, c11⟩ := h
  have h63 := c1.1.2.2.2
  refine ⟨c1.N g f, h1, h3, ?_, h6, h7, by rw [f.2.1 23 5 (by omega)]; exact c7, c8, (g.k c9 c10).1, (g.k c9 c10).2, by unfold zzn; rw [g.2.2 fu c9]; exact c11⟩
  rw [h5, c4, ln_nn (fun i hi => (c1.2.2.2.2.2 i hi).2) h2 h3 h4]
/-- the class's statement, begun -/
theorem cbg_f {S : zzS} {M : zzM} {T : Nat → Nat} {N i tl fu : Nat} {kd op : Int32} (h : cQ S M T N i tl fu) (ht : tl < 100) (hx0 : chT T N i ≠ 0) (hx : chT T N i ≠ 10) : cQ (zznew S 13 0 9) (cbg S M kd op i tl (lnT (fun i => nI (T i)) i)) T N (i + 1) (tl + 1) fu ∧ fcN S.2.1 M (cbg S M kd op i tl (lnT (fun i => nI (T i)) i)) ∧ zzI (cbg S M kd op i tl (lnT (fun i => nI (T i)) i)) S.2.1 0 = kd ∧ zzI (cbg S M kd op i tl (lnT (fun i => nI (T i)) i)) S.2.1 3 = op ∧ stQ (zznew S 13 0 9) (cbg S M kd op i tl (lnT (fun i => nI (T i)) i)) T N S.2.1 i ∧ (∀ k, zzR (cbg S M kd op i tl (lnT (fun i => nI (T i)) i)) S.2.1 k = none) := by
  have h63 := h.1.1.2.2.2
  have hlt := (chT_lt hx0).1
  have hf : fcN S.2.1 M (cbg S M kd op i tl (lnT (fun i => nI (T i)) i)) := (cb0_N.tr (fcN_23 (by omega)) (Nat.le_refl _)).tr (fcN_23 (by omega)) (Nat.le_refl _)
  have hne : ¬ S.2.1 = 23 := by omega
  refine ⟨h.N (gS_new S 13 0 9) hf ?_ (by omega) (by omega) (nn_1 hx0 hx) ?_ ?_ (by omega), hf, ?_, ?_, ⟨by omega, by show S.2.1 < S.2.1 + 1; omega, by unfold zzk zznew; simp, by omega, ?_, ?_⟩, fun k => ?_⟩
  · simp [cbg, plet, pcall, pck, pI_I, pI_L, pI_R, pL_I, pL_L, pL_R, pR_I, pR_L, pR_R]
  · have e : zzI (cbg S M kd op i tl (lnT (fun i => nI (T i)) i)) 23 3 = zzI (cb0 S M kd op i (lnT (fun i => nI (T i)) i)) 23 3 := by simp [cbg, plet, pcall, pck, pI_I, pI_L, pI_R, pL_I, pL_L, pL_R, pR_I, pR_L, pR_R]
    rw [e]
    simp only [cb0, plet, pcall, pck, pI_I, pI_L, pI_R, pL_I, pL_L, pL_R, pR_I, pR_L, pR_R]
    rw [if_neg (by omega), if_neg (by omega), if_neg (by omega), if_neg (by omega)]
    simp only [zzI, zzclr]
    rw [if_neg (by omega)]
  · simp [cbg, plet, pcall, pck, pI_I, pI_L, pI_R, pL_I, pL_L, pL_R, pR_I, pR_L, pR_R]
  · simp [cbg, cb0, plet, pcall, pck, pI_I, pI_L, pI_R, pL_I, pL_L, pL_R, pR_I, pR_L, pR_R, hne]
  · simp [cbg, cb0, plet, pcall, pck, pI_I, pI_L, pI_R, pL_I, pL_L, pL_R, pR_I, pR_L, pR_R, hne]
  · simp [cbg, cb0, plet, pcall, pck, pI_I, pI_L, pI_R, pL_I, pL_L, pL_R, pR_I, pR_L, pR_R, hne]
  · simp [cbg, cb0, plet, pcall, pck, pI_I, pI_L, pI_R, pL_I, pL_L, pL_R, pR_I, pR_L, pR_R, hne]
  · show zzR (zzclr M S.2.1) S.2.1 k = none
    simp [zzR, zzclr]
theorem c_stmt0 {S S2 : zzS} {M M2 : zzM} {T : Nat → Nat} {N i tl fu n : Nat} {dd : Int32} {r : Option Nat} (h : cQ S M T N i tl fu) (ht : tl < 100) (hsh : shN (chT T N i) < 10) (hK : cS58 n 2000 (zznew S 13 0 9) (cbg S M (kdN (chT T N i)) (opN (chT T N i)) i tl (lnT (fun i => nI (T i)) i)) 23 dd (shN (chT T N i)) (some S.2.1) (nI 0) = some (r, S2, M2)) (g2 : gS (zznew S 13 0 9) S2) : FD_Rd_statement (n + 1) S M 23 dd = some (r, S2, M2) := by
  have hok : ∀ i, i < N → okc (T i) := fun i hi => (h.1.2.2.2.2.2 i hi).2
  have hch := chT_le hok i
  have hS := h.1.1
  have g := gS_new S 13 0 9
  have hS1 := g.cl hS
  have h63 := hS.2.2.2
  have hE : zzsE (shN (chT T N i)) = 0 := by
    have : ∀ y, y < 10 → zzsE y = 0 := by decide
    exact this _ hsh
  have hq : zzsq (shN (chT T N i)) = true := by simp [zzsq]; omega
  have z4 : zzI (cb0 S M (kdN (chT T N i)) (opN (chT T N i)) i (lnT (fun i => nI (T i)) i)) 23 4 = nI tl := by
    simp only [cb0, plet, pcall, pck, pI_I, pI_L, pI_R, pL_I, pL_L, pL_R, pR_I, pR_L, pR_R]
    rw [if_neg (by omega), if_neg (by omega), if_neg (by omega), if_neg (by omega)]
    simp only [zzI, zzclr]
    rw [if_neg (by omega)]
    exact h.2.2.2.2.1
  have z2 : zzI (zzsI (cb0 S M (kdN (chT T N i)) (opN (chT T N i)) i (lnT (fun i => nI (T i)) i)) 23 4 (nI (tl + 1))) 23 2 = nI i := by
    rw [pI_I, if_pos rfl, if_neg (by decide)]
    simp only [cb0, plet, pcall, pck, pI_I, pI_L, pI_R, pL_I, pL_L, pL_R, pR_I, pR_L, pR_R]
    rw [if_neg (by omega), if_neg (by omega), if_neg (by omega), if_neg (by omega)]
    simp only [zzI, zzclr]
    rw [if_neg (by omega)]
    exact h.2.1
  rw [FDst_s]
  unfold F_Rd_statement
  rw [c_peek h.1 h.2.1 h.2.2.1, pcall]
  refine pcallA (c_shapeOf (by omega)) (gS.rf S) ?_ (g.tr g2)
  rw [hq, pck, if_pos hE, phas (cl_23 hS) (ck_23 hS), pck, plet, h.2.2.2.2.1, if_pos (show nI tl < (100 : Int32) from nI_lt (b := 100) ht (by omega))]
  refine pcallA (c_begun h (by omega)) g ?_ g2
  rw [phas (cl_23 hS1) (ck_23 hS1), pck, plet, plet, plet, z4, ← nI_succ, plet, z2, plet, plet, ← nI_succ, nI_of_0]
  exact hK
theorem c_stmt0_n {S : zzS} {M : zzM} {T : Nat → Nat} {N i tl fu n : Nat} {dd : Int32} (h : cQ S M T N i tl fu) (hno : tl = 100 ∨ shN (chT T N i) = 10) : FD_Rd_statement (n + 1) S M 23 dd = some (none, S, M) := by
  have hok : ∀ i, i < N → okc (T i) := fun i hi => (h.1.2.2.2.2.2 i hi).2
  have hch := chT_le hok i
  have hS := h.1.1
  have hle : shN (chT T N i) ≤ 10 := by
    have : ∀ y, y < 128 → shN y ≤ 10 := by decide
    exact this _ (by omega)
  have hq : zzsq (shN (chT T N i)) = true := by simp [zzsq]; omega
  rw [FDst_s]
  unfold F_Rd_statement
  rw [c_peek h.1 h.2.1 h.2.2.1, pcall]
  refine pcallA (c_shapeOf (by omega)) (gS.rf S) ?_ (gS.rf S)
  rw [hq, pck]
  by_cases h10 : shN (chT T N i) = 10
  · rw [h10, if_neg (by decide)]
  · have hE : zzsE (shN (chT T N i)) = 0 := by
      have : ∀ y, y < 10 → zzsE y = 0 := by decide
      exact this _ (by omega)
    rcases hno with hno | hno
    · rw [if_pos hE, phas (cl_23 hS) (ck_23 hS), pck, plet, h.2.2.2.2.1, if_neg (by rw [hno]; decide)]
    · exact absurd hno h10
/-! how reading ends -/
def fcZ (fu n0 : Nat) (M M1 : zzM) : Prop := (∀ a k, a < n0 → a ≠ 26 → ¬ (a = 23 ∧ (k = 2 ∨ k = 3 ∨ k = 4 ∨ k = 7)) → zzI M1 a k = zzI M a k) ∧ (∀ a k, a < n0 → a ≠ fu → zzR M1 a k = zzR M a k) ∧ (∀ a k, a < n0 → zzL M1 a k = zzL M a k)
def frZ (w : Nat) (M M1 : zzM) : Prop := (∀ b k, 32 ≤ b → b ≤ 37 → (k < 600 * w ∨ 600 * (w + 1) ≤ k) → zzI M1 b k = zzI M b k) ∧ (∀ b k, b = 39 ∨ b = 40 → (k < 1000 * w ∨ 1000 * (w + 1) ≤ k) → zzI M1 b k = zzI M b k) ∧ (∀ k, (k < 26 * w ∨ 26 * (w + 1) ≤ k) → zzI M1 38 k = zzI M 38 k) ∧ (∀ b k, ¬ (32 ≤ b ∧ b ≤ 44) → ¬ (b = 28 ∧ 15 < k ∧ k < 28) → zzI M1 b k = zzI M b k) ∧ M1.2 = M.2
theorem fcN.Z {n0 fu : Nat} {M M1 : zzM} (h : fcN n0 M M1) : fcZ fu n0 M M1 := ⟨h.1, fun a k h1 _ => h.2.1 a k h1, h.2.2⟩
theorem fcZ.tr {n0 n1 fu : Nat} {M M1 M2 : zzM} (h : fcZ fu n0 M M1) (g : fcZ fu n1 M1 M2) (hn : n0 ≤ n1) : fcZ fu n0 M M2 := ⟨fun a k h1 h2 h3 => (g.1 a k (by omega) h2 h3).trans (h.1 a k h1 h2 h3), fun a k h1 h2 => (g.2.1 a k (by omega) h2).trans (h.2.1 a k h1 h2), fun a k h1 => (g.2.2 a k (by omega)).trans (h.2.2 a k h1)⟩
theorem frR.Z {w m q d : Nat} {M M1 : zzM} (h : frR w m q d M M1) : frZ w M M1 := ⟨fun b k h1 h2 h3 => h.1 b k h1 h2 (by omega), fun b k h1 h2 => h.2.1 b k h1 (by omega), fun k _ => h.2.2.2.1 38 k (by omega) (by omega) (by omega), fun b k h1 h2 => h.2.2.2.1 b k (by omega) (by omega) h2, h.2.2.2.2⟩
theorem frZ.tr {w : Nat} {M M1 M2 : zzM} (h : frZ w M M1) (g : frZ w M1 M2) : frZ w M M2 := ⟨fun b k h1 h2 h3 => (g.1 b k h1 h2 h3).trans (h.1 b k h1 h2 h3), fun b k h1 h2 => (g.2.1 b k h1 h2).trans (h.2.1 b k h1 h2), fun k h1 => (g.2.2.1 k h1).trans (h.2.2.1 k h1), fun b k h1 h2 => (g.2.2.2.1 b k h1 h2).trans (h.2.2.2.1 b k h1 h2), g.2.2.2.2.trans h.2.2.2.2⟩
def grw (S S1 : zzS) (tl t2 i y c : Nat) : Prop := S1.2.1 ≤ S.2.1 + 5 * (t2 - tl) + c ∧ S1.2.2 ≤ S.2.2 + 13 * (t2 - tl) + (y - i) + 2 * c
/-- no script: both stand at p -/
def rF (S : zzS) (N w i tl fu c : Nat) (Mc Mm : zzM) (x : Option (Option Nat × zzS × zzM)) (G : Nat → Option (Int32 × zzM)) : Prop := ∃ p S1 Mc1 Mm1 k t2 y, x = some (none, S1, Mc1) ∧ gS S S1 ∧ fcZ fu S.2.1 Mc Mc1 ∧ zzI Mc1 23 2 = nI p ∧ p ≤ N ∧ (∀ f, G (f + k + 1) = F_Md_read_172 lwSm Mm1 28) ∧ zzI Mm1 28 17 = nI p ∧ frZ w Mm Mm1 ∧ tl ≤ t2 ∧ t2 ≤ 100 ∧ i ≤ y ∧ y ≤ N ∧ grw S S1 tl t2 i y c ∧ k ≤ y - i + 2 * (t2 - tl) + c
/-- a statement read -/
def sO (S : zzS) (T : Nat → Nat) (N w i m q tl d fu : Nat) (Mc Mm : zzM) (x : Option (Option Nat × zzS × zzM)) (G : Nat → Option (Int32 × zzM)) : Prop := ∃ S1 Mc1 Mm1 i2 m2 q2 t2 k, x = some (some S.2.1, S1, Mc1) ∧ gS S S1 ∧ fcN S.2.1 Mc Mc1 ∧ cQ S1 Mc1 T N i2 t2 fu ∧ zzR Mc1 S.2.1 8 = none ∧ (∀ f, G (f + k) = rd f Mm1) ∧ mQ Mm1 T N w i2 m2 q2 t2 d ∧ frR w m q d Mm Mm1 ∧ qS (qB S1 Mc1 Mm1 w T N q2 (2 - d)) (2 - d = 2) S1 Mc1 Mm1 w T N q2 S1.2.1 S.2.1 m m2 ∧ i < i2 ∧ m2 ≤ m + (i2 - i) ∧ q ≤ q2 ∧ q2 ≤ q + (i2 - i) ∧ tl < t2 ∧ grw S S1 tl t2 i i2 0 ∧ k + 1 ≤ i2 - i
