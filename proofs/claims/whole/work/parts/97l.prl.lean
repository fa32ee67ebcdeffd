/-! loops and branches read -/
theorem m_rbw {Mm : zzM} {T : Nat → Nat} {N w i m q tl d : Nat} {kd bk y : Int32} {Mm3 : zzM} (hm : mQ Mm T N w i m q tl d) (hi : i < 1000) (ht : tl < 100) (hm6 : m < 600) (hx : (chT T N i = 63 ∧ kd = 5 ∧ bk = 1) ∨ (chT T N i = 42 ∧ kd = 6 ∧ bk = 3)) (hy : F_Md_readCodes lwSm (moM (zzsI (zzsI Mm 28 20 (nI (tl + 1))) 28 16 (nI (i + 1))) w m kd (nI i)) 28 1 = some (y, Mm3)) : F_Md_readStatement lwSm Mm 28 = F_Md_open lwSm (zzsI Mm3 36 (600 * w + m) y) 28 bk (nI 123) (nI m) := by
  have hok := hm.1.ok
  have hw := hm.1.2.2.1
  have hm2 : mQ (moM (zzsI (zzsI Mm 28 20 (nI (tl + 1))) 28 16 (nI (i + 1))) w m kd (nI i)) T N w (i + 1) (m + 1) q (tl + 1) d := ((hm.tl (tl + 1)).at (i + 1)).order hm6
  have h16 : zzI (zzsI Mm 28 20 (nI (tl + 1))) 28 16 = nI i := hm.2.1
  have e : F_Md_readBlockWith lwSm (zzsI Mm 28 20 (nI (tl + 1))) 28 kd bk (nI i) = zzcall (F_Md_open lwSm (zzsI Mm3 36 (600 * w + m) y) 28 bk (nI 123) (nI m)) (fun _ M => some ((), M)) := by
    simp only [F_Md_readBlockWith, plet, h16, ← nI_succ, m_order ((hm.tl (tl + 1)).at (i + 1)).1 ((hm.tl (tl + 1)).at (i + 1)).2.2.2.1 hm6, pcall, mR_10 hm2.1.1, mr_36, hm2.1.2.1, e600, hy, w_ix mn_36 hw hm6, w_k hw hm6]
    rfl
  have hso : ∀ x, chT T N i = x → (x = 63 ∨ x = 42) → F_Md_simpleOf lwSm (zzsI Mm 28 20 (nI (tl + 1))) (chM T N i) = some (0, zzsI Mm 28 20 (nI (tl + 1))) := fun x h hx => by
    rw [m_simpleOf hok h]
    rcases hx with rfl | rfl <;> rfl
  rcases hx with ⟨hx, rfl, rfl⟩ | ⟨hx, rfl, rfl⟩
  · have ec : chM T N i = (63 : Int32) := chM_is hok (v := 63) (by omega) (by omega) hx
    rw [m_rs hm hi ht, m_isVar_n hok _ _ (by unfold isV; omega), pcall, if_pos rfl, if_neg (by rw [ec]; decide), if_neg (by rw [ec]; decide), hso 63 hx (by omega), pcall, if_pos rfl, if_pos ec, e, zc_u, zc_u]
  · have ec : chM T N i = (42 : Int32) := chM_is hok (v := 42) (by omega) (by omega) hx
    rw [m_rs hm hi ht, m_isVar_n hok _ _ (by unfold isV; omega), pcall, if_pos rfl, if_neg (by rw [ec]; decide), if_neg (by rw [ec]; decide), hso 42 hx (by omega), pcall, if_pos rfl, if_neg (by rw [ec]; decide), if_pos ec, e, zc_u, zc_u]
theorem r_loopS {S : zzS} {Mc Mm : zzM} {T : Nat → Nat} {N w i m q tl d fu n : Nat} (hB : d < 2 → rBk T N w fu n (d + 1)) (hc : cQ S Mc T N i tl fu) (hm : mQ Mm T N w i m q tl d) (ht : tl < 100) (hmi : m ≤ i) (hqi : q ≤ i) (hd : d ≤ 2) (hx : chT T N i = 42) : sO S T N w i m q tl d fu Mc Mm (FD_Rd_statement (n + 3) S Mc 23 (nI d)) (fun f => zzcall (F_Md_readStatement lwSm Mm 28) (fun _ M => rd f M)) ∨ rF S N w i tl fu 0 Mc Mm (FD_Rd_statement (n + 3) S Mc 23 (nI d)) (fun f => zzcall (F_Md_readStatement lwSm Mm 28) (fun _ M => rd f M)) := by
  have hN := hc.1.2.2.2.2.1
  have hiN := hc.2.2.1
  have hok := hm.1.ok
  have hw := hm.1.2.2.1
  have hS := hc.1.1
  have hS63 := hS.2.2.2
  have hsh : shN (chT T N i) = 6 := by rw [hx]; decide
  have hkd : kdN (chT T N i) = 42 := by rw [hx]; decide
  have hlt := chT_lt (T := T) (N := N) (i := i) (by omega)
  obtain ⟨b1, b2, b3, b4, b5, b6⟩ := cbg_f (kd := kdN (chT T N i)) (op := opN (chT T N i)) hc ht (by omega) (by omega)
  have hm2 : mQ (moM (zzsI (zzsI Mm 28 20 (nI (tl + 1))) 28 16 (nI (i + 1))) w m 6 (nI i)) T N w (i + 1) (m + 1) q (tl + 1) d := ((hm.tl (tl + 1)).at (i + 1)).order (by omega)
  have hf2 : frR w m q d Mm (moM (zzsI (zzsI Mm 28 20 (nI (tl + 1))) 28 16 (nI (i + 1))) w m 6 (nI i)) := ((frR_s (by omega)).tr (frR_s (by omega)) (Nat.le_refl _) (Nat.le_refl _) (Nat.le_refl _)).tr (moM_f (by omega)) (Nat.le_refl _) (Nat.le_refl _) (Nat.le_refl _)
  obtain ⟨v1, v2, v3, v4, v5, v6⟩ := moM_v (M := zzsI (zzsI Mm 28 20 (nI (tl + 1))) 28 16 (nI (i + 1))) (w := w) (m := m) (kd := 6) (wh := nI i)
  have hzn := gS_new S 13 0 9
  have hzk : zzk (zznew S 13 0 9) S.2.1 = 13 := by unfold zzk zznew; simp
  have hzl : S.2.1 < (zznew S 13 0 9).2.1 := by show S.2.1 < S.2.1 + 1; omega
  have hl6 : zzsl 6 = 2 := by decide
  rcases P_E (n := n + 1) (dd := nI d) hzl hzk (by omega) b1 hm2 (by omega) with ⟨S0, Mc0, Mm0, i0, q0, e1, e2, e3, e4, e5, e6, e7, e8, e9, e10, e11, e12, e13⟩ | ⟨p, Mc1, Mm1, a1, a2, a3, a4, a5, a6, a7, -⟩
  · have hs0 := e3.k hzl hzk
    have hm3 := e6.ord (a := 36) (k := m) (v := nI q) (by omega) (by omega)
    have hf3 := (hf2.tr (e7.R2 m d) (Nat.le_refl _) (Nat.le_refl _) (Nat.le_refl _)).tr (frR_o (a := 36) (k0 := m) (v := nI q) (by omega) (Nat.le_refl m) (by omega)) (Nat.le_refl _) (Nat.le_refl _) (Nat.le_refl _)
    have h12 : S0.2.1 = S.2.1 + 1 + 1 := e12
    have h13 : S0.2.2 ≤ S.2.2 + 9 + (i0 - (i + 1)) := e13
    have hfc0 : fcN S.2.1 Mc Mc0 := b2.tr (e4.N (by omega)) (Nat.le_refl _)
    have hrs := m_rbw (bk := 3) hm (by omega) ht (show m < 600 by omega) (Or.inr ⟨hx, rfl, rfl⟩) e2
    rcases r_encl (n := n) (br := 123) (ec := 125) (kd := 3) (ov := nI m) hB e5 hm3 (by omega) (by omega) hd (Or.inr ⟨rfl, rfl, by decide⟩) with ⟨S1, Mc1, Mm1, i2, m2, q2, t2, k, a1, a2, a3, a4, a5, a6, a7, a8, a9, a10, a11, a12, a13, a14, a15, a16, a17, a18, a19⟩ | H
    · left
      have hi2N := a4.2.2.1
      have hs1 := a2.k hs0.1 hs0.2
      have hb1 : S0.2.1 < S1.2.1 ∧ zzk S1 S0.2.1 = 12 := by
        have e : 2 - d = (1 - d) + 1 := by omega
        rw [e] at a11
        exact ⟨a11.2.1, a11.2.2.1.2.1⟩
      have hst : FD_Rd_statement (n + 3) S Mc 23 (nI d) = some (some S.2.1, S1, zzsR Mc1 S.2.1 6 (some S0.2.1)) := by
        refine c_stmt0 hc ht (by rw [hsh]; omega) ?_ (e3.tr a2)
        rw [hsh]
        refine s58_y (q := 1999) (c := 69) e5.1.1 (by omega) (by rw [hl6]; omega) (by omega) (by rw [hl6]; omega) (by decide) e1 e3 ?_ a2
        refine s58_y (q := 1998) (c := 66) a4.1.1 (by omega) (by rw [hl6]; omega) (by omega) (by rw [hl6]; omega) (by decide) (p_blk (Or.inl ⟨rfl, rfl⟩) hs1.1 hs1.2 hb1.1 hb1.2 a2 a1) a2 (s58_end (q := 1997) (by omega) (by rw [hl6]) (by omega)) (gS.rf _)
      have hp : plM Mm1 w m = nI i := by
        rw [plM, a7.1 33 _ (by omega) (by omega) (by omega), pI_I, if_neg (by decide), (e7.R2 (m + 1) d).1 33 _ (by omega) (by omega) (by omega)]
        exact v2
      have ho : odM Mm1 w m = 6 := by
        rw [odM, a7.1 32 _ (by omega) (by omega) (by omega), pI_I, if_neg (by decide), (e7.R2 (m + 1) d).1 32 _ (by omega) (by omega) (by omega)]
        exact v1
      have hse : seM Mm1 w m = nI q := by
        rw [seM, a7.1 36 _ (by omega) (by omega) (by omega)]; simp [plet, pcall, pck, pI_I, pI_L, pI_R, pL_I, pL_L, pL_R, pR_I, pR_L, pR_R]
      obtain ⟨c1, c2⟩ := a6.cl
      have hm26 : m2 < 600 := (a11.le).2.1
      have c3 := c1.order (kd := 17) (wh := nI i) hm26
      obtain ⟨u1, u2, u3, u4, u5, u6⟩ := moM_v (M := mcl Mm1 i2 d) (w := w) (m := m2) (kd := 17) (wh := nI i)
      have hcl : F_Md_close lwSm Mm1 28 = some ((), zzsI (zzsI (moM (mcl Mm1 i2 d) w m2 17 (nI i)) 37 (600 * w + m2) (nI m)) 37 (600 * w + m) (nI (m2 + 1))) := by
        have h18 : zzI (zzsI (moM (mcl Mm1 i2 d) w m2 17 (nI i)) 37 (600 * w + m2) (nI m)) 28 18 = nI (m2 + 1) := by rw [pI_I, if_neg (by decide)]; exact u4
        rw [m_close a6 a10 a8 a9 (by omega) hp]
        unfold mcK
        rw [if_neg (by decide), if_neg (by decide), if_pos rfl, m_order c1.1 c1.2.2.2.1 hm26, pcall, mR_11 c3.1.1, mr_37, c3.1.2.1, plet, plet, plet, e600, w_ix mn_37 hw hm26, w_k hw hm26, plet, m_aim (c3.ord (a := 37) (k := m2) (v := nI m) (by omega) hm26).1 (show m < 600 by omega), pcall, h18]
      have c4 := (c3.ord (a := 37) (k := m2) (v := nI m) (by omega) hm26).ord (a := 37) (k := m) (v := nI (m2 + 1)) (by omega) (by omega)
      have hI : ∀ j, zzI (zzsR Mc1 S.2.1 6 (some S0.2.1)) S.2.1 j = zzI (cbg S Mc (kdN (chT T N i)) (opN (chT T N i)) i tl (lnT (fun i => nI (T i)) i)) S.2.1 j := fun j => by
        show zzI Mc1 S.2.1 j = _
        rw [a3.1 S.2.1 j hs0.1 (by omega) (by omega)]
        exact e4.1 S.2.1 j hzl (by omega) (by omega)
      have hor : ∀ a j, 32 ≤ a → a ≤ 37 → j ≠ m2 → (a ≠ 37 ∨ j ≠ m) → zzI (zzsI (zzsI (moM (mcl Mm1 i2 d) w m2 17 (nI i)) 37 (600 * w + m2) (nI m)) 37 (600 * w + m) (nI (m2 + 1))) a (600 * w + j) = zzI Mm1 a (600 * w + j) := fun a j g1 g2 g3 g4 => by
        simp only [pI_I]
        by_cases h37 : a = 37
        · rw [if_pos h37, if_neg (by omega), if_pos h37, if_neg (by omega)]
          exact (u6 a j g1 g2 g3).trans (mcl_o (by omega))
        · rw [if_neg h37, if_neg h37]
          exact (u6 a j g1 g2 g3).trans (mcl_o (by omega))
      have hco : ∀ a j, a = 39 ∨ a = 40 → zzI (zzsI (zzsI (moM (mcl Mm1 i2 d) w m2 17 (nI i)) 37 (600 * w + m2) (nI m)) 37 (600 * w + m) (nI (m2 + 1))) a j = zzI Mm1 a j := fun a j g1 => by
        rw [pI_I, if_neg (by omega), pI_I, if_neg (by omega), moM_c g1]
        exact mcl_o (by omega)
      refine ⟨S1, _, _, i2 + 1, m2 + 1, q2, t2, k, hst, hzn.tr (e3.tr a2), (hfc0.tr a3 (by omega)).tr (fcN_r (Nat.le_refl _)) (Nat.le_refl _), a4.w (by omega), ?_, fun f => ?_, c4, ((((hf3.tr a7 (by omega) (by omega) (Nat.le_refl _)).tr c2 (by omega) (by omega) (Nat.le_refl _)).tr (moM_f hm26) (by omega) (by omega) (Nat.le_refl _)).tr (frR_o (by omega) (by omega) hm26) (Nat.le_refl m) (by omega) (Nat.le_refl _)).tr (frR_o (by omega) (Nat.le_refl m) (by omega)) (Nat.le_refl _) (by omega) (Nat.le_refl _), ⟨by omega, by omega, by omega, i, ?_, ?_, Or.inr (Or.inr (Or.inr (Or.inr (Or.inr (Or.inr (Or.inl ⟨?_, ?_, ?_, S0.2.1, m2, ?_, ?_, ?_, ?_, ?_, rfl⟩))))))⟩, by omega, by omega, by omega, by omega, by omega, ⟨?_, ?_⟩, by omega⟩
      · rw [pR_R, if_pos rfl, if_neg (by decide), a3.2.1 S.2.1 8 hs0.1, e4.2.1 S.2.1 8 hzl (by omega)]
        exact b6 8
      · show zzcall (F_Md_readStatement lwSm Mm 28) (fun _ M => rd (f + k) M) = _
        rw [hrs]
        refine (a5 f).trans ?_
        rw [hcl, pcall]
      · obtain ⟨s1, s2, s3, s4, s5, s6⟩ := b5
        exact ⟨s1, ((e3.tr a2).k s2 s3).1, ((e3.tr a2).k s2 s3).2, s4, (hI 1).trans s5, (hI 2).trans s6⟩
      · rw [plM, hor 33 m (by omega) (by omega) (by omega) (by omega)]; exact hp
      · rw [hI 0, b3, hkd]
      · rw [odM, hor 32 m (by omega) (by omega) (by omega) (by omega)]; exact ho
      · have e5r : zzR (zzsR Mc1 S.2.1 6 (some S0.2.1)) S.2.1 5 = zzR Mc0 S.2.1 5 := by
          rw [pR_R, if_pos rfl, if_neg (by decide)]
          exact a3.2.1 S.2.1 5 hs0.1
        rw [e5r, seM, hor 36 m (by omega) (by omega) (by omega) (by omega), show zzI Mm1 36 (600 * w + m) = nI q from hse]
        obtain ⟨x, fn, cs, y1, y2, y3, y4, y5, y6, y7, y8, y9, y10⟩ := e8
        have ga : agC S.2.1.succ S0.2.1 S0 S1 Mc0 (zzsR Mc1 S.2.1 6 (some S0.2.1)) := ⟨a2.1, fun a g1 g2 => ⟨a2.2.2 a g2, fun j => a3.1 a j g2 (by omega) (by omega), fun j => by rw [pR_R, if_neg (by omega)]; exact a3.2.1 a j g2⟩⟩
        obtain ⟨x', fn', cs', z1, z2, z3, z4, z5⟩ := exQ.go (i := 0) (j := 0) (q1 := q2) (S1 := S1) (Mc1 := zzsR Mc1 S.2.1 6 (some S0.2.1)) (Mm1 := zzsI (zzsI (moM (mcl Mm1 i2 d) w m2 17 (nI i)) 37 (600 * w + m2) (nI m)) 37 (600 * w + m) (nI (m2 + 1))) (show exQ S0 Mc0 Mm0 w q0 S.2.1.succ S0.2.1 (zzR Mc0 S.2.1 5) (nI q) from ⟨x, fn, cs, y1, y2, y3, y4, y5, y6, y7, y8, y9, y10⟩) ga ⟨fun a k _ _ _ h => by omega, fun a j g1 g2 => by
          rw [hco a _ g1, a7.2.1 a _ g1 (by omega), pI_I, if_neg (by omega)]⟩ (by omega)
        exact ⟨x', fn', cs', z1, z2, z3, by omega, z5⟩
      · simp [plet, pcall, pck, pI_I, pI_L, pI_R, pL_I, pL_L, pL_R, pR_I, pR_L, pR_R]
      · refine qB.go (S := S1) (Mc := Mc1) (Mm := Mm1) (Nat.le_refl q2) (agC_s (by omega)) ⟨fun a j g1 g2 g3 g4 => hor a j g1 g2 (by omega) (by omega), fun a j g1 _ => hco a _ g1⟩ ?_
        have e : 2 - d = (1 - d) + 1 := by omega
        rw [e] at a11 ⊢
        obtain ⟨k1, k2, k3, k4, L, k5⟩ := a11
        have hkey : ∀ (L : List Nat) (lo lo2 hi : Nat) (x : Option Nat) (i j : Nat), lo2 ≤ lo → qC (qS (qB S1 Mc1 Mm1 w T N q2 (1 - d)) ((1 - d) = 2) S1 Mc1 Mm1 w T N q2) Mc1 L lo hi x i j → qC (qS (qB S1 Mc1 Mm1 w T N q2 (1 - d)) ((1 - d) = 2) S1 Mc1 Mm1 w T N q2) Mc1 L lo2 hi x i j := fun L lo lo2 hi x i j hlo hq => by
          cases L with
          | nil => exact ⟨hq.1, hq.2.1, by have := hq.2.2; omega⟩
          | cons s L => exact ⟨hq.1, by have := hq.2.1; omega, hq.2.2⟩
        exact ⟨by omega, k2, k3, k4, L, hkey L _ _ _ _ _ _ (by omega) k5⟩
      · simp only [odM, pI_I]
        rw [if_neg (by decide), if_neg (by decide)]
        exact u1
      · simp only [tgM, pI_I, if_true]
        rw [if_neg (by omega)]
      · simp [tgM, pI_I]
      · have := a18.1
        omega
      · have := a18.2
        omega
    · right
      refine H.up (S := S) (k := 6) (s := S.2.1) (k0 := 0) (tl := tl) (hzn.tr e3) hfc0.Z hf3.Z (Nat.le_refl _) (by omega) (fun S1 Mc1 g1 z1 => ?_) (fun f => ?_) (by omega) (by omega) (by omega) (by omega) (by omega)
      · refine c_stmt0 hc ht (by rw [hsh]; omega) ?_ (e3.tr g1)
        rw [hsh]
        refine s58_y (q := 1999) (c := 69) e5.1.1 (by omega) (by rw [hl6]; omega) (by omega) (by rw [hl6]; omega) (by decide) e1 e3 ?_ g1
        have hs1 := g1.k hs0.1 hs0.2
        exact s58_n (q := 1998) (c := 66) (by omega) (by rw [hl6]; omega) (by omega) (by rw [hl6]; omega) (by decide) (p_blk_n (Or.inl ⟨rfl, rfl⟩) hs1.1 hs1.2 g1 z1) g1
      · show zzcall (F_Md_readStatement lwSm Mm 28) (fun _ M => rd (f + 0) M) = _
        rw [hrs]
        rfl
  · right
    have hwr : zzI (zzsI Mm1 36 (600 * w + m) (nI q)) 28 17 = nI p := by rw [pI_I, if_neg (by decide)]; exact a6
    have hrs := m_rbw (bk := 3) hm (by omega) ht (show m < 600 by omega) (Or.inr ⟨hx, rfl, rfl⟩) a2
    have e1 : FD_Rd_statement (n + 3) S Mc 23 (nI d) = some (none, zznew S 13 0 9, Mc1) := by
      refine c_stmt0 hc ht (by rw [hsh]; omega) ?_ (gS.rf _)
      rw [hsh]
      exact s58_n (q := 1999) (c := 69) (by omega) (by rw [hl6]; omega) (by omega) (by rw [hl6]; omega) (by decide) a1 (gS.rf _)
    refine rF_w (t2 := tl + 1) (y := i + 1) (p := p) e1 hzn (b2.tr (a3.N (by omega)) (Nat.le_refl _)).Z a4 a5 (Mm1 := zzsI Mm1 36 (600 * w + m) (nI q)) (fun f => ?_) hwr (by omega) ((hf2.Z.tr (a7.R2 m d).Z).tr (frR_o (m := m) (q := q) (d := d) (by omega) (Nat.le_refl m) (by omega)).Z) (by omega) (by omega) (by omega) (by omega) ⟨by show S.2.1 + 1 ≤ _; omega, by show S.2.2 + 9 ≤ _; omega⟩
    show zzcall (F_Md_readStatement lwSm Mm 28) (fun _ M => rd f M) = _
    rw [hrs, m_open_w (by rw [hwr]; exact nI_m1 (by omega)), pcall]
