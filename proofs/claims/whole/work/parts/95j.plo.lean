/-! loops -/
abbrev cL3 (S : zzS) (n q : Nat) := F_Wk_loop_3 S (FD_Wk_block S n) (FD_Wk_statement S n) (FD_Wk_branch S n) (FD_Wk_loop S n) (FD_Wk_act S n) (FD_Wk_closing S n) (FD_Wk_call S n) q
abbrev cL25 (S : zzS) (n : Nat) (k3 : zzM → Nat → Option Nat → Int32 → Int32 → Int32 → Option (Int32 × zzM)) := F_Wk_loop_25 S (FD_Wk_block S n) (FD_Wk_statement S n) (FD_Wk_branch S n) (FD_Wk_loop S n) (FD_Wk_act S n) (FD_Wk_closing S n) (FD_Wk_call S n) k3
theorem c_l25 {S : zzS} {M M1 : zzM} {n s : Nat} {l c er r : Int32} {v : Int64} {k3 : zzM → Nat → Option Nat → Int32 → Int32 → Int32 → Option (Int32 × zzM)} (hS : clS S) (hC : clR M) (hs : s < S.2.1) (hk : zzk S s = 13) (h63 : 63 ≤ s) (a1 : F_Rk_value S M 16 (zzR M s 5) = some (v, M1)) (a3 : frK M M1) (a5 : zzI M1 16 4 = er) : cL25 S n k3 M 27 (some s) l c r = if er = 0 then (if v = 0 then some (0, M1) else zzcall (FD_Wk_block S n M1 27 (zzR M s 6) (l + 1) c) fun e M => if e = 0 then k3 M 27 (some s) l c (r + 1) else some (e, M)) else some (1, zzsI (zzsR (zzsI M1 19 9 er) 19 10 (some s)) 19 11 0) := by
  have hC1 := a3.cR hC
  have hr : ∀ j, zzR M1 s j = zzR M s j := fun j => (fcC_K a3 s (by omega)).2 j
  simp only [F_Wk_loop_25, plet, pcall, cR_27_1 hC, cr_16 hS, poptp hs hk, a1, cR_27_1 hC1, a5, c_fail hS hC1, hr, pcmp_eq]
theorem w_l25 {S : zzS} {Mc Mm : zzM} {w o ll t lim n d i j c h l s p b1 m r : Nat} {k3 : zzM → Nat → Option Nat → Int32 → Int32 → Int32 → Option (Int32 × zzM)} (hB : bOK S w lim n d c (l + 1)) (hX : wX S Mc Mm w lim) (hD : dW S Mc Mm w o ll t) (ht : t < lim) (hm : mS Mm i c h) (hl : l < 6) (hh : h ≤ l) (hst : stP S Mc Mm w s p) (hpl : plM Mm w i = nI p) (hij : i < j) (hj : j < 600) (hod : odM Mm w i = 6) (he : exR S Mc Mm w (zzR Mc s 5) (seM Mm w i)) (h6 : zzR Mc s 6 = some b1) (hb1 : psB S Mc Mm w d b1 (i + 1) m) (e1 : odM Mm w m = 17) (e2 : tgM Mm w m = nI i) (e3 : tgM Mm w i = nI (m + 1)) (e4 : j = m + 1)
    (hN : ∀ Mc2 Mm2 o2 ll2 t2, t + 1 ≤ t2 → t2 ≤ lim → dW S Mc2 Mm2 w o2 ll2 t2 → mS Mm2 i c h → fw l h c Mc Mc2 Mm Mm2 → wO S w lim True l c h j 0 t2 Mc2 Mm2 (fun f => rn f Mm2) (k3 Mc2 27 (some s) (nI l) (nI c) (nI (r + 1)))) : wO S w lim True l c h j 0 t Mc Mm (fun f => rn f Mm) (cL25 S n k3 (cst Mc t) 27 (some s) (nI l) (nI c) (nI r)) := by
  have hX0 := hX
  obtain ⟨hlim, hx2, hx3, hx4, -⟩ := hX
  obtain ⟨q1, q2, q3, q4, q5, q6⟩ := hst
  obtain ⟨Mc1, Mm1, er, v, a1, a2, a3, a4, a5, a6, a7, a8, a9, a10, a11, a12, a13⟩ := st_val (l := l) (p := p) hD ht hlim hm (by omega) q1 he
  have hS := hD.1.1.1
  have hC : clR (cst Mc t) := hD.1.1.2.1
  have hR : mdR Mm := hD.1.2.1.1
  have hw := hD.1.2.2.2.1
  have hR1 : mdR (mst Mm i t (nI p)) := hR
  have hcl := c_l25 (n := n) (k3 := k3) (l := nI l) (c := nI c) (r := nI r) hS hC q2 q3 q1 a1 a3 a5
  have hac := m_act56 hR1 hw (show i < 600 by omega) (Or.inr rfl) a2 a4 a6 a12
  have hrn := fun f => rn_st (y := F_Md_act lwSm (mst Mm i t (nI p)) 28 6 (nI (600 * w + i))) hR hD.1.2.2.1 hw (show i < 600 by omega) hm hod (by simp) hD.1.2.2.2.2.2.2.2.1 hx3 ht hlim hpl (by simp) f
  by_cases h0 : er = 0
  · subst h0
    rw [if_pos rfl] at hcl hac
    rw [hcl, ← nI_succ, ← nI_succ]
    have r6 : zzR (cst Mc t) s 6 = some b1 := h6
    rw [r6]
    by_cases hv : v = 0
    · rw [if_pos hv]
      rw [a7 rfl, if_pos hv] at hac
      have htg : tgM Mm1 w i = tgM Mm w i := a10.2.2.1.1 37 (by omega) (by omega) _
      have hnm : nmF Mm1 (zzsI Mm1 28 52 (tgM Mm1 w i)) := nmF_s _ (by omega)
      have hfw : fw l h c Mc1 Mc1 Mm1 (zzsI Mm1 28 52 (tgM Mm1 w i)) := ⟨fcC.rf _, fcH.rf _ _, hnm.C, ⟨fun a h1 h2 j _ => by simp only [plet, pcall, pck, pI_I, pI_L, pI_R, pL_I, pL_L, pL_R, pR_I, pR_L, pR_R]; rw [if_neg (by omega)], fun j _ => rfl, fun j _ => rfl, fun j _ => rfl⟩⟩
      have hf2 := a10.tr hfw
      refine wO.pre (k0 := 1) (b1 := 2) (t2 := t + 1) (G2 := fun f => rn f (zzsI Mm1 28 52 (tgM Mm1 w i))) (fun f => ?_) hf2 a11 (by omega) (by omega) ?_
      · show rn (f + 1) Mm = _
        rw [hrn, hac, pcall]
      · refine wO_done (a8.neu (ncF.rf _) hnm) (by omega) ⟨?_, a9.2.1, a9.2.2.1, a9.2.2.2⟩
        rw [htg, e3, e4]
        simp [plet, pcall, pck, pI_I, pI_L, pI_R, pL_I, pL_L, pL_R, pR_I, pR_L, pR_R]
    · rw [if_neg hv]
      rw [a7 rfl, if_neg hv] at hac
      refine wO.pre (k0 := 1) (b1 := 2) (t2 := t + 1) (G2 := fun f => rn f Mm1) (fun f => ?_) a10 a11 (by omega) (by omega) ?_
      · show rn (f + 1) Mm = _
        rw [hrn, hac, pcall]
      · have hle := hb1.le
        have H := hB h b1 (i + 1) m Mc1 Mm1 o ll (t + 1) (by omega) (hb1.go a10.1 a10.2.2.1) (hX0.go a10) a8 (by omega) a9
        refine wO.bind (b1 := 0) (b2 := 2) (l := l) (h := h) (c := c) H (by omega) (Nat.le_refl _) (Nat.le_refl _) ?_ ?_ (fun M => rfl)
        · intro Mc2 Mm2 o2 ll2 t2 _ d1 d2 d3 d4 d5 d6
          have f2 := a10.2.2.1.tr d4.2.2.1
          refine wO_go (b0 := 1) d1 d5 hle.2 (by rw [odM, f2.1 32 (by omega) (by omega)]; exact e1) (i2 := i) (by rw [tgM, f2.1 37 (by omega) (by omega)]; exact e2) (fun Mm3 g1 g2 g3 => ?_)
          rw [if_pos rfl]
          obtain ⟨e, Mc4, Mm4, o1, ll1, t1, k, y1, y2, y3, y4, y5, y6, y7⟩ := hN Mc2 Mm3 o2 ll2 t2 d2 d3 g1 g2 ((a10.tr (d4.mo (by omega) (Nat.le_refl _) (Nat.le_refl _))).tr g3)
          exact ⟨e, Mc4, Mm4, o1, ll1, t1, k, y1, y2, y3, y4, y5, by omega, y7⟩
        · intro Mc2 Mm2 o2 ll2 t2 r kd v s p d1 d2 d3 d4 d5 d6 d7 d8 d9 d10 d11 d12
          rw [if_neg (by decide)]
          exact wO_fail d1 d3 d5 d6 d7 d8 d9 d10 d11 d12
  · rw [if_neg h0] at hcl hac
    rw [hcl]
    rw [hac] at hrn
    obtain ⟨e, Mc2, Mm2, o1, ll1, t1, k, y1, y2, y3, y4, y5, y6, y7⟩ := wO_op (b0 := 0) (l := l) hD ht hlim hm (by omega) (by omega) ⟨q1, q2, q3, q4, q5, q6⟩ hrn (oO_fail (kd := er) (v := 0) (s := s) h0 a8 (fX_KA a3 a4) rfl rfl)
    refine ⟨e, Mc2, Mm2, o1, ll1, t1, k, y1, y2, y3, y4, y5, y6, ?_⟩
    rcases y7 with ⟨rfl, _⟩ | y7
    · exact absurd y1 (by simp)
    · exact Or.inr y7
theorem loop_step {S : zzS} {n q : Nat} : cL3 S n (q + 1) = F_Wk_loop_3_b S (FD_Wk_block S n) (FD_Wk_statement S n) (FD_Wk_branch S n) (FD_Wk_loop S n) (FD_Wk_act S n) (FD_Wk_closing S n) (FD_Wk_call S n) (cL3 S n q) := rfl
theorem FGW_s (S : zzS) (n : Nat) : FG_W S (n + 1) = (F_Wk_block S (FG_W S n).1 (FG_W S n).2.1 (FG_W S n).2.2.1 (FG_W S n).2.2.2.1 (FG_W S n).2.2.2.2.1 (FG_W S n).2.2.2.2.2.1 (FG_W S n).2.2.2.2.2.2, F_Wk_statement S (FG_W S n).1 (FG_W S n).2.1 (FG_W S n).2.2.1 (FG_W S n).2.2.2.1 (FG_W S n).2.2.2.2.1 (FG_W S n).2.2.2.2.2.1 (FG_W S n).2.2.2.2.2.2, F_Wk_branch S (FG_W S n).1 (FG_W S n).2.1 (FG_W S n).2.2.1 (FG_W S n).2.2.2.1 (FG_W S n).2.2.2.2.1 (FG_W S n).2.2.2.2.2.1 (FG_W S n).2.2.2.2.2.2, F_Wk_loop S (FG_W S n).1 (FG_W S n).2.1 (FG_W S n).2.2.1 (FG_W S n).2.2.2.1 (FG_W S n).2.2.2.2.1 (FG_W S n).2.2.2.2.2.1 (FG_W S n).2.2.2.2.2.2, F_Wk_act S (FG_W S n).1 (FG_W S n).2.1 (FG_W S n).2.2.1 (FG_W S n).2.2.2.1 (FG_W S n).2.2.2.2.1 (FG_W S n).2.2.2.2.2.1 (FG_W S n).2.2.2.2.2.2, F_Wk_closing S (FG_W S n).1 (FG_W S n).2.1 (FG_W S n).2.2.1 (FG_W S n).2.2.2.1 (FG_W S n).2.2.2.2.1 (FG_W S n).2.2.2.2.2.1 (FG_W S n).2.2.2.2.2.2, F_Wk_call S (FG_W S n).1 (FG_W S n).2.1 (FG_W S n).2.2.1 (FG_W S n).2.2.2.1 (FG_W S n).2.2.2.2.1 (FG_W S n).2.2.2.2.2.1 (FG_W S n).2.2.2.2.2.2) := rfl
theorem FDloop_s {S : zzS} {n : Nat} : FD_Wk_loop S (n + 1) = F_Wk_loop S (FD_Wk_block S n) (FD_Wk_statement S n) (FD_Wk_branch S n) (FD_Wk_loop S n) (FD_Wk_act S n) (FD_Wk_closing S n) (FD_Wk_call S n) := by
  unfold FD_Wk_loop FD_Wk_block FD_Wk_statement FD_Wk_branch FD_Wk_act FD_Wk_closing FD_Wk_call
  rw [FGW_s]
/-- the statement's own facts, carried -/
def lpF (S : zzS) (Mc Mm : zzM) (w d i j s p b1 m : Nat) : Prop := stP S Mc Mm w s p ∧ plM Mm w i = nI p ∧ odM Mm w i = 6 ∧ exR S Mc Mm w (zzR Mc s 5) (seM Mm w i) ∧ zzR Mc s 6 = some b1 ∧ psB S Mc Mm w d b1 (i + 1) m ∧ odM Mm w m = 17 ∧ tgM Mm w m = nI i ∧ tgM Mm w i = nI (m + 1) ∧ j = m + 1
theorem lpF.go {S : zzS} {Mc Mm Mc1 Mm1 : zzM} {w d i j s p b1 m l h c : Nat} (H : lpF S Mc Mm w d i j s p b1 m) (f : fw l h c Mc Mc1 Mm Mm1) : lpF S Mc1 Mm1 w d i j s p b1 m := by
  obtain ⟨h1, h2, h3, h4, h5, h6, h7, h8, h9, h10⟩ := H
  have hs := h1.1
  refine ⟨h1.go f.1 f.2.2.1, ?_, ?_, ?_, ?_, h6.go f.1 f.2.2.1, ?_, ?_, ?_, h10⟩
  · rw [plM, f.2.2.1.1 33 (by omega) (by omega)]; exact h2
  · rw [odM, f.2.2.1.1 32 (by omega) (by omega)]; exact h3
  · rw [(f.1 s (by omega)).2, seM, f.2.2.1.1 36 (by omega) (by omega)]; exact h4.go f.1 f.2.2.1
  · rw [(f.1 s (by omega)).2]; exact h5
  · rw [odM, f.2.2.1.1 32 (by omega) (by omega)]; exact h7
  · rw [tgM, f.2.2.1.1 37 (by omega) (by omega)]; exact h8
  · rw [tgM, f.2.2.1.1 37 (by omega) (by omega)]; exact h9
theorem w_lround {S : zzS} {w lim n d i j c h l s p b1 m : Nat} (hB : bOK S w lim n d c (l + 1)) (hl : l < 6) (hh : h ≤ l) (hij : i < j) (hj : j < 600) : ∀ (q r n2 : Nat) (Mc Mm : zzM) (o ll t : Nat), lim - t ≤ q → q < n2 → 1 ≤ r → r ≤ t → lpF S Mc Mm w d i j s p b1 m → wX S Mc Mm w lim → dW S Mc Mm w o ll t → t ≤ lim → mS Mm i c h → wO S w lim True l c h j 0 t Mc Mm (fun f => rn f Mm) (cL3 S n n2 Mc 27 (some s) (nI l) (nI c) (nI r)) := by
  intro q
  induction q with
  | zero =>
    intro r n2 Mc Mm o ll t hq hn hr1 hr2 hF hX hD ht hm
    obtain ⟨n3, rfl⟩ : ∃ n3, n2 = n3 + 1 := ⟨n2 - 1, by omega⟩
    have hlim := hX.1
    obtain ⟨f1, f2, f3, f4, f5, f6, f7, f8, f9, f10⟩ := hF
    rw [loop_step]
    simp only [F_Wk_loop_3_b, if_neg (show ¬ (300 : Int32) < nI r from nI_nlt (a := 300) (by omega) (by omega)), if_neg (nI_nle (show 0 < r by omega) (by omega)), c_step_n hD.1.1.1 hD.1.1.2.1 hD.1.2.2.2.2.2.2.1 hX.2.1 (show lim ≤ t by omega) (by omega), pcall, if_true]
    exact wO_spent hD (by omega) hm hX.2.2.1 (by omega) f3 (by simp)
  | succ q ih =>
    intro r n2 Mc Mm o ll t hq hn hr1 hr2 hF hX hD ht hm
    obtain ⟨n3, rfl⟩ : ∃ n3, n2 = n3 + 1 := ⟨n2 - 1, by omega⟩
    have hlim := hX.1
    have hF0 := hF
    obtain ⟨f1, f2, f3, f4, f5, f6, f7, f8, f9, f10⟩ := hF
    rw [loop_step]
    by_cases htl : t < lim
    · simp only [F_Wk_loop_3_b, if_neg (show ¬ (300 : Int32) < nI r from nI_nlt (a := 300) (by omega) (by omega)), if_neg (nI_nle (show 0 < r by omega) (by omega)), c_step_y hD.1.1.1 hD.1.1.2.1 hD.1.2.2.2.2.2.2.1 hX.2.1 htl hlim, pcall]
      rw [if_neg (show ¬ (1 : Int32) = 0 by decide)]
      exact w_l25 hB hX hD htl hm hl hh f1 f2 hij hj f3 f4 f5 f6 f7 f8 f9 f10 (fun Mc2 Mm2 o2 ll2 t2 g1 g2 g3 g4 g5 => ih (r + 1) n3 Mc2 Mm2 o2 ll2 t2 (by omega) (by omega) (by omega) (by omega) (hF0.go g5) (hX.go g5) g3 g2 g4)
    · simp only [F_Wk_loop_3_b, if_neg (show ¬ (300 : Int32) < nI r from nI_nlt (a := 300) (by omega) (by omega)), if_neg (nI_nle (show 0 < r by omega) (by omega)), c_step_n hD.1.1.1 hD.1.1.2.1 hD.1.2.2.2.2.2.2.1 hX.2.1 (show lim ≤ t by omega) (by omega), pcall, if_true]
      exact wO_spent hD (by omega) hm hX.2.2.1 (by omega) f3 (by simp)
theorem w_loop {S : zzS} {Mc Mm : zzM} {w o ll t lim n d i j c h l s p b1 m : Nat} (hB : bOK S w lim n d c (l + 1)) (hX : wX S Mc Mm w lim) (hD : dW S Mc Mm w o ll t) (ht : t < lim) (hm : mS Mm i c h) (hl : l < 6) (hh : h ≤ l) (hij : i < j) (hj : j < 600) (hF : lpF S Mc Mm w d i j s p b1 m) : wO S w lim True l c h j 0 t Mc Mm (fun f => rn f Mm) (FD_Wk_loop S (n + 1) (cst Mc t) 27 (some s) (nI l) (nI c)) := by
  have hF0 := hF
  have hlim := hX.1
  obtain ⟨f1, f2, f3, f4, f5, f6, f7, f8, f9, f10⟩ := hF
  have e : FD_Wk_loop S (n + 1) (cst Mc t) 27 (some s) (nI l) (nI c) = cL25 S n (cL3 S n 1999) (cst Mc t) 27 (some s) (nI l) (nI c) (nI 0) := by
    have e0 : ∀ q, cL3 S n (q + 1) (cst Mc t) 27 (some s) (nI l) (nI c) 0 = cL25 S n (cL3 S n q) (cst Mc t) 27 (some s) (nI l) (nI c) (nI 0) := fun q => by
      rw [loop_step]
      simp only [F_Wk_loop_3_b]
      rw [if_neg (by decide), if_pos (by decide), nI_of_0]
    rw [FDloop_s, F_Wk_loop]
    exact e0 1999
  rw [e]
  exact w_l25 hB hX hD ht hm hl hh f1 f2 hij hj f3 f4 f5 f6 f7 f8 f9 f10 (fun Mc2 Mm2 o2 ll2 t2 g1 g2 g3 g4 g5 => w_lround hB hl hh hij hj 300 (0 + 1) 1999 Mc2 Mm2 o2 ll2 t2 (by omega) (by omega) (by omega) (by omega) (hF0.go g5) (hX.go g5) g3 g2 g4)
