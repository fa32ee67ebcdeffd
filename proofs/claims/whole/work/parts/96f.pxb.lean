/-! atoms -/
theorem c_fieldDigit {S : zzS} {M : zzM} {T : Nat → Nat} {N i : Nat} (h : rcC S M T N) (hh : zzI M 23 2 = nI i) (hi : i ≤ N) : F_Rd_fieldDigit S M 23 = if 48 ≤ chT T N i ∧ chT T N i ≤ 53 then some (nI (chT T N i - 48), zzsI M 23 2 (nI (i + 1))) else some (-1, M) := by
  obtain ⟨h1, h2, h3, h4, h5, h6⟩ := h
  by_cases hlt : i < N
  · have hT : T i < 1000 := by have := (h6 i hlt).2; unfold okc at this; omega
    have hc : chT T N i = T i := if_pos hlt
    simp only [F_Rd_fieldDigit, F_Rd_fieldDigit_27, plet, hh, h4, if_neg (nI_ge hlt (show N < 2 ^ 31 by omega)), h3, cr_1 h1, pix (cn_1 h1) (show i < 400 by omega) (by omega), pnI (show i < 100000 by omega), (h6 i hlt).1, hc, ← nI_succ]
    by_cases hd : 48 ≤ T i ∧ T i ≤ 53
    · have e1 : nI (T i) - (48 : Int32) = nI (T i - 48) := psub (b := 48) hd.1
      rw [if_pos hd, e1, if_neg (nI_pos (by omega)), if_pos (show nI (T i - 48) < (6 : Int32) from nI_lt (b := 6) (by omega) (by omega))]
    · rw [if_neg hd]
      by_cases h48 : T i < 48
      · rw [if_pos (show nI (T i) - (48 : Int32) < 0 from pk_sneg (b := 48) (by omega) h48)]
      · have e1 : nI (T i) - (48 : Int32) = nI (T i - 48) := psub (b := 48) (by omega)
        rw [e1, if_neg (nI_pos (by omega)), if_neg (show ¬ nI (T i - 48) < (6 : Int32) from nI_nlt (b := 6) (by omega) (by omega))]
  · have hc : chT T N i = 0 := if_neg hlt
    simp only [F_Rd_fieldDigit, F_Rd_fieldDigit_27, plet, hh, h4, if_pos (nI_le (show N ≤ i by omega) (show i < 2 ^ 31 by omega)), hc]
    rw [if_pos (by decide), if_neg (by omega)]
theorem a_step {S : zzS} {T : Nat → Nat} {N w q : Nat} {wh bg : Int32} {n d : Nat} (hd : d ≤ 3) (H : d < 3 → aP S T N w q wh bg n (d + 1)) (HK : d < 3 → kP S T N w q wh bg n 0 (d + 1)) : aP S T N w q wh bg (n + 1) d := by
  intro i ks σ Mc Mm hc hm hq hl hσ
  have hrc := hc.1
  have hS := hrc.1
  have hN := hrc.2.2.2.2.1
  have hiN := hc.2.2.1
  have hokT : ∀ i, i < N → okc (T i) := fun i hi => (hrc.2.2.2.2.2 i hi).2
  have hch := chT_le hokT i
  have hpk := c_peek hrc hc.2.1 hiN
  have hkl := hc.2.2.2.2
  have ne : ∀ v, v < 128 → chT T N i ≠ v → ¬ nI (chT T N i) = nI v := fun v hv h e => h ((peq (by omega) (by omega)).mp e)
  rw [FDa_s]
  by_cases hP : isP (chT T N i)
  · left
    have hnN : ¬ isN (chT T N i) := by unfold isP at hP; unfold isN; omega
    rcases m_plain hm (by omega) (by omega) with ⟨_, x, i2, Mm1, b1, b2, b3, b4⟩ | ⟨b1, _⟩
    · obtain ⟨p1, p2, p3, p4, p5⟩ := plA_f b1 hiN
      have hcl : ∃ Mc1, F_Rd_atom S (FD_Rd_ranked S n) (FD_Rd_atom S n) Mc 23 (nI d) = some (1, Mc1) ∧ frE Mc Mc1 ∧ cX S Mc1 T N i2 (ks ++ [x]) := by
        have hz : zzokZ 1 = true := by decide
        rcases b1 with ⟨c1, c2, rfl, rfl⟩ | ⟨c1, c2, rfl, rfl⟩ | ⟨c1, rfl, rfl⟩
        · obtain ⟨M1, e1, e2⟩ := c_num (S := S) (T := T) (N := N) 4 2000 i 0 Mc (by omega) (by omega) hrc hc.2.1 hiN (by decide)
          have hnum : F_Rd_number S Mc 23 = some (nI (numT T N 4 i 0).1, M1) := e1
          have hM1 : frE Mc M1 ∧ cX S M1 T N (numT T N 4 i 0).2 ks := by
            rcases e2 with ⟨e2, e3⟩ | e2
            · omega
            · subst e2
              exact ⟨frE_h _, hrc.go (frE_h _), by simp [plet, pcall, pck, pI_I, pI_L, pI_R, pL_I, pL_L, pL_R, pR_I, pR_L, pR_R], p2, hc.2.2.2.1.h _, by omega⟩
          obtain ⟨M2, f1, f2, f3⟩ := hM1.2.emit (q := (48, nI (numT T N 4 i 0).1)) (c := 110) (v := nI (numT T N 4 i 0).1) (by omega) rfl rfl
          refine ⟨M2, ?_, hM1.1.tr f2, f3⟩
          simp only [F_Rd_atom, hpk, pcall, c_isDigit S Mc (show chT T N i < 1000 by omega), if_pos (show 48 ≤ chT T N i ∧ chT T N i ≤ 57 from ⟨c1, c2⟩), hnum, f1, hz, pck]
          exact if_neg (by decide)
        · obtain ⟨hlt, -⟩ := chT_lt (T := T) (N := N) (i := i) (by omega)
          have e1 : nI (chT T N i) - (97 : Int32) = nI (chT T N i - 97) := psub (b := 97) c1
          obtain ⟨M2, f1, f2, f3⟩ := (hc.step hlt).emit (q := (97, nI (chT T N i - 97))) (c := 118) (v := nI (chT T N i - 97)) (by omega) rfl rfl
          refine ⟨M2, ?_, (frE_h _).tr f2, f3⟩
          simp only [F_Rd_atom, hpk, pcall, c_isDigit S Mc (show chT T N i < 1000 by omega), if_neg (show ¬ (48 ≤ chT T N i ∧ chT T N i ≤ 57) by omega), if_true, c_isVar S Mc (show chT T N i < 1000 by omega), if_pos (show 97 ≤ chT T N i ∧ chT T N i ≤ 122 from ⟨c1, c2⟩), plet, hc.2.1, ← nI_succ, e1, f1, hz, pck]
          exact if_neg (by decide)
        · obtain ⟨hlt, -⟩ := chT_lt (T := T) (N := N) (i := i) (by omega)
          obtain ⟨M2, f1, f2, f3⟩ := (hc.step hlt).emit (q := (35, 0)) (c := 35) (v := 0) (by omega) rfl rfl
          refine ⟨M2, ?_, (frE_h _).tr f2, f3⟩
          simp only [F_Rd_atom, hpk, pcall, c_isDigit S Mc (show chT T N i < 1000 by omega), if_neg (show ¬ (48 ≤ chT T N i ∧ chT T N i ≤ 57) by omega), if_true, c_isVar S Mc (show chT T N i < 1000 by omega), if_neg (show ¬ (97 ≤ chT T N i ∧ chT T N i ≤ 122) by omega), if_pos (show nI (chT T N i) = (35 : Int32) by rw [c1]; rfl), plet, hc.2.1, ← nI_succ, f1, hz, pck]
      obtain ⟨Mc1, e1, e2, e3⟩ := hcl
      refine ⟨i2, [x], Mc1, Mm1, 1, 2000, e1, e2, b3, e3, b4, fun f => ?_, by omega, by omega, p1, by simp; omega, p3.mo (by omega), okA_1 p4, p5⟩
      rw [rc_plain hm (by omega) hnN, b2, zc_as]
    · exact absurd hP b1
  · have nD : ¬ (48 ≤ chT T N i ∧ chT T N i ≤ 57) := fun h => hP (Or.inl h)
    have nV : ¬ (97 ≤ chT T N i ∧ chT T N i ≤ 122) := fun h => hP (Or.inr (Or.inl h))
    have n35 : ¬ nI (chT T N i) = (35 : Int32) := ne 35 (by omega) (fun h => hP (Or.inr (Or.inr h)))
    by_cases hNst : isN (chT T N i)
    · by_cases hd3 : d < 3
      · obtain ⟨hlt, -⟩ := chT_lt (T := T) (N := N) (i := i) (by unfold isN at hNst; omega)
        obtain ⟨Mm1, b1, b2, b3⟩ := (rc_nest (wh := wh) (bg := bg) hm (by omega) hNst (by omega)).1 hd3
        have hnn0 : nn T i (i + 1) := nn_1 (N := N) (by unfold isN at hNst; omega) (by unfold isN at hNst; omega)
        have hc1 := hc.step hlt
        have hlt3 : nI d < (3 : Int32) := nI_lt (b := 3) hd3 (by omega)
        have hsσ : ∀ x ∈ sgU (chT T N i) :: σ, x < 128 := fun x hx => by
          simp at hx
          rcases hx with hx | hx
          · unfold sgU at hx; split at hx <;> omega
          · exact hσ x hx
        rcases hNst with h45 | h40 | h64 | h39
        · -- minus
          have hu : sgU (chT T N i) = 95 := if_pos h45
          rw [hu] at b2 hsσ
          have e0 : F_Rd_atom S (FD_Rd_ranked S n) (FD_Rd_atom S n) Mc 23 (nI d) = zzcall (FD_Rd_atom S n (zzsI Mc 23 2 (nI (i + 1))) 23 (nI (d + 1))) fun r20 M => if r20 = 0 then (some ((0 : Int32), M)) else (zzcall (F_Rd_emit S M 23 (126 : Int32) (0 : Int32)) fun r21 M => if r21 = 0 then (some ((0 : Int32), M)) else (some ((1 : Int32), M))) := by
            simp only [F_Rd_atom, hpk, pcall, c_isDigit S Mc (show chT T N i < 1000 by omega), if_neg nD, if_true, c_isVar S Mc (show chT T N i < 1000 by omega), if_neg nV, if_neg n35, if_pos hlt3, if_neg (show ¬ nI (chT T N i) = (39 : Int32) from ne 39 (by omega) (by omega)), if_neg (show ¬ nI (chT T N i) = (40 : Int32) from ne 40 (by omega) (by omega)), if_pos (show nI (chT T N i) = (45 : Int32) by rw [h45]; rfl), plet, hc.2.1, ← nI_succ]
          rw [e0]
          rcases H hd3 (i + 1) ks (95 :: σ) _ Mm1 hc1 b2 (by omega) (by simp; omega) hsσ with ⟨i2, A, Mc2, Mm2, k, g, a1, a2, a3, a4, a5, a6, a7, a8, a9, a10, a11, a12, a13⟩ | ⟨p, Mc2, Mm2, k2, a1, a2, a3, a4, a5, a6, a7, a8, a9, a10⟩
          · left
            have hi2N := a4.2.2.1
            obtain ⟨g2, rfl⟩ : ∃ g2, g = g2 + 1 := ⟨g - 1, by omega⟩
            obtain ⟨Mm3, f1, f2, f3⟩ := cmp_9539 (g := g2) a5 (by omega) (by simp; omega) (Or.inl rfl)
            obtain ⟨Mc3, l1, l2, l3⟩ := a4.emit (q := (95, 0)) (c := 126) (v := 0) (by simp; omega) (by decide) rfl
            have f4 : mX Mm3 T N w q i2 (ks ++ A ++ [((95 : Int32), 0)]) σ d := f3
            refine ⟨i2, A ++ [(95, 0)], Mc3, Mm3, k + 1, g2, ?_, ((frE_h _).tr a2).tr l2, (b3.tr a3).tr f2, by simpa using l3, by simpa using f4, fun f => ?_, by omega, by omega, by omega, by simp; omega, wfA_un (a11.mo (by omega)) (Or.inl rfl), a12.app (okA_1 ⟨0, 126, by omega, by omega, rfl, by decide⟩), hnn0.tr a13⟩
            · rw [a1, pcall, if_neg (by decide), l1, pcall, if_neg (by decide)]
            · rw [show f + (k + 1) = f + k + 1 by omega, b1, a6, aft, f1]
          · right
            refine ⟨p, Mc2, Mm2, k2 + 1, by rw [a1, pcall, if_pos rfl], (frE_h _).tr a2, b3.tr a3, a4, a5, by clear a10; omega, fun f => ?_, a8, by clear a10; omega, a10⟩
            show rc wh bg (f + (k2 + 1) + 1) Mm 1 1 = _
            rw [show f + (k2 + 1) + 1 = f + k2 + 1 + 1 by omega, b1]
            exact a7 f
        · -- bracket
          have hu : sgU (chT T N i) = 40 := by unfold sgU; rw [if_neg (by omega)]; exact h40
          rw [hu] at b2 hsσ
          have e0 : F_Rd_atom S (FD_Rd_ranked S n) (FD_Rd_atom S n) Mc 23 (nI d) = zzcall (FD_Rd_ranked S n (zzsI Mc 23 2 (nI (i + 1))) 23 (nI 0) (nI (d + 1))) fun r14 M => if r14 = 0 then (some ((0 : Int32), M)) else (zzcall (F_Rd_take S M 23 (nI 41)) fun r15 M => if r15 = 0 then (some ((0 : Int32), M)) else (some ((1 : Int32), M))) := by
            simp only [F_Rd_atom, hpk, pcall, c_isDigit S Mc (show chT T N i < 1000 by omega), if_neg nD, if_true, c_isVar S Mc (show chT T N i < 1000 by omega), if_neg nV, if_neg n35, if_pos hlt3, if_neg (show ¬ nI (chT T N i) = (39 : Int32) from ne 39 (by omega) (by omega)), if_pos (show nI (chT T N i) = (40 : Int32) by rw [h40]; rfl), plet, hc.2.1, ← nI_succ]
            rfl
          rw [e0]
          rcases HK hd3 (i + 1) ks (40 :: σ) _ Mm1 hc1 b2 (by omega) (by simp; omega) hsσ (fun x s hx => by cases hx; exact ⟨by decide, by omega, by omega, by omega⟩) (Or.inr (by simp)) (fun _ => Or.inr ⟨σ, rfl⟩) with ⟨i2, F, F1, pd, Mc2, Mm2, k2, a1, a2, a3, a4, a5, a6, a7, a8, a9, a10, a11, a12, a13, a14, a15, a16⟩ | ⟨p, Mc2, Mm2, k2, a1, a2, a3, a4, a5, a6, a7, a8, a9, a10⟩
          · have hi2N := a4.2.2.1
            have hfl : F1.length + pd.length = F.length := by rw [a6]; simp
            rw [a1, pcall, if_neg (by decide), c_take a4.1 a4.2.1 hi2N (by omega) (by omega)]
            by_cases h41 : chT T N i2 = 41
            · left
              rw [if_pos h41, pcall, if_neg (by decide)]
              obtain ⟨hlt2, -⟩ := chT_lt (T := T) (N := N) (i := i2) (by omega)
              obtain ⟨Mm3, f1, f2, f3⟩ := rc_close (wh := wh) (bg := bg) a5 (by omega) (by simp; omega) (fun x hx => ⟨(a13 x hx).1, (a13 x hx).2.1, by have := (a13 x hx).2.2; omega⟩) hσ (by simp; omega) h41
              have hks : ks ++ F1 ++ pd.map (fun c => (nI c, 0)) = ks ++ F := by rw [a6, List.append_assoc]
              rw [hks] at f2
              refine ⟨i2 + 1, F, _, Mm3, 1 + k2 + 1, 2000, rfl, ((frE_h _).tr a2).tr (frE_h _), (b3.tr a3).tr f3, a4.step hlt2, f2, fun f => ?_, by omega, by omega, by omega, by omega, a11.mo (by omega), a12, (hnn0.tr a16).tr (nn_1 (N := N) (by omega) (by omega))⟩
              rw [show f + (1 + k2 + 1) = f + 1 + k2 + 1 by omega, b1]
              refine (a7 (f + 1)).trans ?_
              rw [f1]
            · right
              rw [if_neg h41, pcall, if_pos rfl]
              have hbad := fun f => rc_bad (wh := wh) (bg := bg) (f := f) a5 (by omega) (by simp; omega) (fun x hx => ⟨(a13 x hx).1, (a13 x hx).2.1⟩) hσ (a15.2 rfl).1 (a15.2 rfl).2 h41
              refine ⟨i2, Mc2, zzsI Mm2 28 17 (nI i2), 1 + k2 + 1, rfl, (frE_h _).tr a2, (b3.tr a3).tr (frX_s _ (by omega)), a4.2.1, hi2N, by omega, fun f => ?_, by simp [plet, pcall, pck, pI_I, pI_L, pI_R, pL_I, pL_L, pL_R, pR_I, pR_L, pR_R], by omega, i2, by omega, by simp [plet, pcall, pck, pI_I, pI_L, pI_R, pL_I, pL_L, pL_R, pR_I, pR_L, pR_R]; exact a5.2.1⟩
              show rc wh bg (f + (1 + k2 + 1) + 1) Mm 1 1 = _
              rw [show f + (1 + k2 + 1) + 1 = f + 1 + 1 + k2 + 1 by omega, b1]
              refine (a7 (f + 1 + 1)).trans ?_
              rw [hbad, rc_w (by rw [pI_I, if_pos rfl, if_pos rfl]; exact nI_m1 (by omega))]
          · right
            refine ⟨p, Mc2, Mm2, k2 + 1, by rw [a1, pcall, if_pos rfl], (frE_h _).tr a2, b3.tr a3, a4, a5, by clear a10; omega, fun f => ?_, a8, by clear a10; omega, a10⟩
            show rc wh bg (f + (k2 + 1) + 1) Mm 1 1 = _
            rw [show f + (k2 + 1) + 1 = f + k2 + 1 + 1 by omega, b1]
            exact a7 f
        · -- field
          have hu : sgU (chT T N i) = 64 := by unfold sgU; rw [if_neg (by omega)]; exact h64
          rw [hu] at b2 hsσ
          have e0 : F_Rd_atom S (FD_Rd_ranked S n) (FD_Rd_atom S n) Mc 23 (nI d) = zzcall (FD_Rd_atom S n (zzsI Mc 23 2 (nI (i + 1))) 23 (nI (d + 1))) fun r26 M => if r26 = 0 then (some ((0 : Int32), M)) else (zzcall (F_Rd_take S M 23 (nI 58)) fun r27 M => if r27 = 0 then (some ((0 : Int32), M)) else (zzcall (F_Rd_fieldDigit S M 23) fun r28 M => if r28 = (-1 : Int32) then (some ((0 : Int32), M)) else (zzcall (F_Rd_emit S M 23 (64 : Int32) r28) fun r29 M => if r29 = 0 then (some ((0 : Int32), M)) else (some ((1 : Int32), M))))) := by
            simp only [F_Rd_atom, hpk, pcall, c_isDigit S Mc (show chT T N i < 1000 by omega), if_neg nD, if_true, c_isVar S Mc (show chT T N i < 1000 by omega), if_neg nV, if_neg n35, if_pos hlt3, if_neg (show ¬ nI (chT T N i) = (39 : Int32) from ne 39 (by omega) (by omega)), if_neg (show ¬ nI (chT T N i) = (40 : Int32) from ne 40 (by omega) (by omega)), if_neg (show ¬ nI (chT T N i) = (45 : Int32) from ne 45 (by omega) (by omega)), if_pos (show nI (chT T N i) = (64 : Int32) by rw [h64]; rfl), plet, hc.2.1, ← nI_succ]
            rfl
          rw [e0]
          rcases H hd3 (i + 1) ks (64 :: σ) _ Mm1 hc1 b2 (by omega) (by simp; omega) hsσ with ⟨i2, A, Mc2, Mm2, k, g, a1, a2, a3, a4, a5, a6, a7, a8, a9, a10, a11, a12, a13⟩ | ⟨p, Mc2, Mm2, k2, a1, a2, a3, a4, a5, a6, a7, a8, a9, a10⟩
          · have hi2N := a4.2.2.1
            obtain ⟨g2, rfl⟩ : ∃ g2, g = g2 + 1 := ⟨g - 1, by omega⟩
            rw [a1, pcall, if_neg (by decide), c_take a4.1 a4.2.1 hi2N (by omega) (by omega)]
            rcases cmp_64 (g := g2) a5 (by omega) (by simp; omega) (by omega) with ⟨c1, c2, c3, Mm3, f1, f2, f3⟩ | ⟨p, Mm3, c1, f1, f2, f3, f4⟩
            · left
              obtain ⟨hlt2, -⟩ := chT_lt (T := T) (N := N) (i := i2) (by omega)
              obtain ⟨hlt3', -⟩ := chT_lt (T := T) (N := N) (i := i2 + 1) (by omega)
              have a4' := a4.step hlt2
              rw [if_pos c1, pcall, if_neg (by decide), c_fieldDigit a4'.1 a4'.2.1 a4'.2.2.1, if_pos ⟨c2, c3⟩, pcall, if_neg (nI_m1 (by omega))]
              obtain ⟨Mc3, l1, l2, l3⟩ := (a4'.step hlt3').emit (q := (64, nI (chT T N (i2 + 1) - 48))) (c := 64) (v := nI (chT T N (i2 + 1) - 48)) (by simp; omega) rfl rfl
              have f4 : mX Mm3 T N w q (i2 + 2) (ks ++ A ++ [((64 : Int32), nI (chT T N (i2 + 1) - 48))]) σ d := f3
              refine ⟨i2 + 2, A ++ [(64, nI (chT T N (i2 + 1) - 48))], Mc3, Mm3, k + 1, g2, ?_, ((((frE_h _).tr a2).tr (frE_h _)).tr (frE_h _)).tr l2, (b3.tr a3).tr f2, by simpa using l3, by simpa using f4, fun f => ?_, by omega, by omega, by omega, by simp; omega, wfA_un (a11.mo (by omega)) (Or.inr (Or.inr ⟨rfl, _, by omega, rfl⟩)), a12.app (okA_1 ⟨_, 64, by omega, by omega, rfl, rfl⟩), ((hnn0.tr a13).tr (nn_1 (N := N) (by omega) (by omega))).tr (nn_1 (N := N) (i := i2 + 1) (by omega) (by omega))⟩
              · rw [l1, pcall, if_neg (by decide)]
              · rw [show f + (k + 1) = f + k + 1 by omega, b1, a6, aft, f1]
            · right
              have hGf : ∀ f, rc wh bg (f + (k + 1) + 1) Mm 1 1 = some (bg, Mm3) := fun f => by
                rw [show f + (k + 1) + 1 = f + 1 + k + 1 by omega, b1, a6, aft, f1, pcall, rc_w (by
                  rw [f3]
                  exact nI_m1 (by rcases c1 with c1 | c1 <;> omega))]
              rcases c1 with ⟨c1, rfl⟩ | ⟨c1, c2, rfl⟩
              · rw [if_neg c1, pcall, if_pos rfl]
                exact ⟨p, Mc2, Mm3, k + 1, rfl, (frE_h _).tr a2, (b3.tr a3).tr f2, a4.2.1, hi2N, by clear f4; omega, hGf, f3, by clear f4; omega, f4⟩
              · obtain ⟨hlt2, -⟩ := chT_lt (T := T) (N := N) (i := i2) (by omega)
                have a4' := a4.step hlt2
                rw [if_pos c1, pcall, if_neg (by decide), c_fieldDigit a4'.1 a4'.2.1 a4'.2.2.1, if_neg c2, pcall, if_pos rfl]
                exact ⟨i2 + 1, _, Mm3, k + 1, rfl, ((frE_h _).tr a2).tr (frE_h _), (b3.tr a3).tr f2, a4'.2.1, a4'.2.2.1, by clear f4; omega, hGf, f3, by clear f4; omega, f4⟩
          · right
            refine ⟨p, Mc2, Mm2, k2 + 1, by rw [a1, pcall, if_pos rfl], (frE_h _).tr a2, b3.tr a3, a4, a5, by clear a10; omega, fun f => ?_, a8, by clear a10; omega, a10⟩
            show rc wh bg (f + (k2 + 1) + 1) Mm 1 1 = _
            rw [show f + (k2 + 1) + 1 = f + k2 + 1 + 1 by omega, b1]
            exact a7 f
        · -- place
          have hu : sgU (chT T N i) = 39 := by unfold sgU; rw [if_neg (by omega)]; exact h39
          rw [hu] at b2 hsσ
          have e0 : F_Rd_atom S (FD_Rd_ranked S n) (FD_Rd_atom S n) Mc 23 (nI d) = zzcall (FD_Rd_atom S n (zzsI Mc 23 2 (nI (i + 1))) 23 (nI (d + 1))) fun r8 M => if r8 = 0 then (some ((0 : Int32), M)) else (zzcall (F_Rd_emit S M 23 (39 : Int32) (0 : Int32)) fun r9 M => if r9 = 0 then (some ((0 : Int32), M)) else (some ((1 : Int32), M))) := by
            simp only [F_Rd_atom, hpk, pcall, c_isDigit S Mc (show chT T N i < 1000 by omega), if_neg nD, if_true, c_isVar S Mc (show chT T N i < 1000 by omega), if_neg nV, if_neg n35, if_pos hlt3, if_pos (show nI (chT T N i) = (39 : Int32) by rw [h39]; rfl), plet, hc.2.1, ← nI_succ]
          rw [e0]
          rcases H hd3 (i + 1) ks (39 :: σ) _ Mm1 hc1 b2 (by omega) (by simp; omega) hsσ with ⟨i2, A, Mc2, Mm2, k, g, a1, a2, a3, a4, a5, a6, a7, a8, a9, a10, a11, a12, a13⟩ | ⟨p, Mc2, Mm2, k2, a1, a2, a3, a4, a5, a6, a7, a8, a9, a10⟩
          · left
            have hi2N := a4.2.2.1
            obtain ⟨g2, rfl⟩ : ∃ g2, g = g2 + 1 := ⟨g - 1, by omega⟩
            obtain ⟨Mm3, f1, f2, f3⟩ := cmp_9539 (g := g2) a5 (by omega) (by simp; omega) (Or.inr rfl)
            obtain ⟨Mc3, l1, l2, l3⟩ := a4.emit (q := (39, 0)) (c := 39) (v := 0) (by simp; omega) (by decide) rfl
            have f4 : mX Mm3 T N w q i2 (ks ++ A ++ [((39 : Int32), 0)]) σ d := f3
            refine ⟨i2, A ++ [(39, 0)], Mc3, Mm3, k + 1, g2, ?_, ((frE_h _).tr a2).tr l2, (b3.tr a3).tr f2, by simpa using l3, by simpa using f4, fun f => ?_, by omega, by omega, by omega, by simp; omega, wfA_un (a11.mo (by omega)) (Or.inr (Or.inl rfl)), a12.app (okA_1 ⟨0, 39, by omega, by omega, rfl, by decide⟩), hnn0.tr a13⟩
            · rw [a1, pcall, if_neg (by decide), l1, pcall, if_neg (by decide)]
            · rw [show f + (k + 1) = f + k + 1 by omega, b1, a6, aft, f1]
          · right
            refine ⟨p, Mc2, Mm2, k2 + 1, by rw [a1, pcall, if_pos rfl], (frE_h _).tr a2, b3.tr a3, a4, a5, by clear a10; omega, fun f => ?_, a8, by clear a10; omega, a10⟩
            show rc wh bg (f + (k2 + 1) + 1) Mm 1 1 = _
            rw [show f + (k2 + 1) + 1 = f + k2 + 1 + 1 by omega, b1]
            exact a7 f
      · right
        have hd' : d = 3 := by omega
        have e3 := (rc_nest (wh := wh) (bg := bg) hm (by omega) hNst (by omega)).2 hd'
        refine ⟨i, Mc, zzsI Mm 28 17 (nI i), 1, ?_, frE.rf _, frX_s _ (by omega), hc.2.1, hiN, Nat.le_refl _, fun f => ?_, by simp [plet, pcall, pck, pI_I, pI_L, pI_R, pL_I, pL_L, pL_R, pR_I, pR_L, pR_R], by omega, i, by omega, hm.2.1⟩
        · simp only [F_Rd_atom, hpk, pcall, c_isDigit S Mc (show chT T N i < 1000 by omega), if_neg nD, if_true, c_isVar S Mc (show chT T N i < 1000 by omega), if_neg nV, if_neg n35]
          exact if_neg (by rw [hd']; decide)
        · show rc wh bg (f + 1 + 1) Mm 1 1 = _
          rw [e3, rc_w (by rw [pI_I, if_pos rfl, if_pos rfl]; exact nI_m1 (by omega))]
    · right
      rcases m_plain hm (by omega) (by omega) with ⟨b1, _⟩ | ⟨_, Mm1, b2, b3, b4, b5⟩
      · exact absurd b1 hP
      · refine ⟨i, Mc, Mm1, 1, ?_, frE.rf _, b3, hc.2.1, hiN, Nat.le_refl _, fun f => ?_, b4, by omega, i, by omega, b5⟩
        · unfold isN at hNst
          simp only [F_Rd_atom, hpk, pcall, c_isDigit S Mc (show chT T N i < 1000 by omega), if_neg nD, if_true, c_isVar S Mc (show chT T N i < 1000 by omega), if_neg nV, if_neg n35, if_neg (show ¬ nI (chT T N i) = (39 : Int32) from ne 39 (by omega) (by omega)), if_neg (show ¬ nI (chT T N i) = (40 : Int32) from ne 40 (by omega) (by omega)), if_neg (show ¬ nI (chT T N i) = (45 : Int32) from ne 45 (by omega) (by omega)), if_neg (show ¬ nI (chT T N i) = (64 : Int32) from ne 64 (by omega) (by omega)), ite_self]
        · show rc wh bg (f + 1 + 1) Mm 1 1 = _
          rw [rc_plain hm (by omega) hNst, b2, pcall, rc_w (by rw [b4]; exact nI_m1 (by omega))]
theorem x_all {S : zzS} {T : Nat → Nat} {N w q : Nat} {wh bg : Int32} : ∀ (e n : Nat), e ≤ 3 → 5 * e + 1 ≤ n → aP S T N w q wh bg n (3 - e) ∧ kP S T N w q wh bg (n + 4) 0 (3 - e) := by
  intro e
  induction e with
  | zero =>
    intro n he hn
    obtain ⟨n2, rfl⟩ : ∃ n2, n = n2 + 1 := ⟨n - 1, by omega⟩
    have ha : aP S T N w q wh bg (n2 + 1) 3 := a_step (by omega) (fun h => absurd h (by omega)) (fun h => absurd h (by omega))
    exact ⟨ha, k_r (by omega) (by omega) (k_r (by omega) (by omega) (k_r (by omega) (by omega) (k_3 (by omega) ha)))⟩
  | succ e ih =>
    intro n he hn
    obtain ⟨n2, rfl⟩ : ∃ n2, n = n2 + 5 := ⟨n - 5, by omega⟩
    have h1 := (ih (n2 + 4) (by omega) (by omega)).1
    have h2 := (ih n2 (by omega) (by omega)).2
    have e1 : 3 - (e + 1) + 1 = 3 - e := by omega
    have ha : aP S T N w q wh bg (n2 + 5) (3 - (e + 1)) := a_step (n := n2 + 4) (by omega) (fun _ => by rw [e1]; exact h1) (fun _ => by rw [e1]; exact h2)
    exact ⟨ha, k_r (by omega) (by omega) (k_r (by omega) (by omega) (k_r (by omega) (by omega) (k_3 (by omega) ha)))⟩
