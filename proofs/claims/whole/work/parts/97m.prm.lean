/-! branches read -/
theorem qB.wd {S : zzS} {Mc Mm : zzM} {w : Nat} {T : Nat → Nat} {N q d lo lo2 hi hi2 b i j : Nat} (h : qB S Mc Mm w T N q d lo hi b i j) (h1 : lo2 ≤ lo) (h2 : hi ≤ hi2) : qB S Mc Mm w T N q d lo2 hi2 b i j := by
  cases d with
  | zero => exact h.elim
  | succ d =>
    obtain ⟨k1, k2, k3, k4, L, k5⟩ := h
    refine ⟨by omega, by omega, k3, k4, L, ?_⟩
    have key : ∀ (L : List Nat) (lo lo2 : Nat) (x : Option Nat) (i j : Nat), lo2 ≤ lo → qC (qS (qB S Mc Mm w T N q d) (d = 2) S Mc Mm w T N q) Mc L lo hi x i j → qC (qS (qB S Mc Mm w T N q d) (d = 2) S Mc Mm w T N q) Mc L lo2 hi2 x i j := by
      intro L
      induction L with
      | nil => intro lo lo2 x i j hlo hq; exact ⟨hq.1, hq.2.1, by have := hq.2.2; omega⟩
      | cons s L ih =>
        intro lo lo2 x i j hlo hq
        obtain ⟨g1, g2, h, k, g3, g4, g5⟩ := hq
        exact ⟨g1, by omega, h, k, by omega, g4, ih h h _ _ _ (Nat.le_refl _) g5⟩
    exact key L _ _ _ _ _ h1 k5
theorem p_O_y {S S1 : zzS} {M M1 : zzM} {T : Nat → Nat} {N i n s b : Nat} {dd : Int32} (hr : rcC S M T N) (hh : zzI M 23 2 = nI i) (hi : i ≤ N) (hc : chT T N i = 123) (hs : s < S1.2.1) (hk : zzk S1 s = 13) (hb : b < S1.2.1) (hbk : zzk S1 b = 12) (g : gS S S1) (h : FD_Rd_enclosed n S M 23 123 125 dd = some (some b, S1, M1)) : FD_Rd_part (n + 1) S M 23 (some s) 79 dd = some (1, S1, zzsR M1 s 7 (some b)) := by
  rw [FDp_s]
  show zzcall (F_Rd_peek S M 23) (fun r62 M => if r62 = (123 : Int32) then (zzcallA S (FD_Rd_enclosed n S M 23 (123 : Int32) (125 : Int32) dd) fun r69 S M => zzopt S 13 (some s) (none) (fun b70 => zzlet (zzsR M b70 7 r69) fun M => zzlet (zzR M b70 7) fun r72 => zzopt S 12 r72 (some ((0 : Int32), S, M)) (fun b73 => some ((1 : Int32), S, M)))) else (zzmk S M 12 0 2 fun b63 S M => zzcall (F_Bl_init S M b63) fun r64 M => zzopt S 13 (some s) (none) (fun b65 => zzlet (zzsR M b65 7 (some b63)) fun M => zzlet (zzR M b65 7) fun r67 => zzopt S 12 r67 (some ((0 : Int32), S, M)) (fun b68 => some ((1 : Int32), S, M))))) = _
  rw [c_peek hr hh hi, pcall, hc, if_pos (show nI 123 = (123 : Int32) from rfl)]
  refine pcallA h g ?_ (gS.rf _)
  have e2 : zzR (zzsR M1 s 7 (some b)) s 7 = some b := by simp [plet, pcall, pck, pI_I, pI_L, pI_R, pL_I, pL_L, pL_R, pR_I, pR_L, pR_R]
  rw [poptp hs hk, plet, plet, e2, poptp hb hbk]
theorem p_O_f {S S1 : zzS} {M M1 : zzM} {T : Nat → Nat} {N i n s : Nat} {dd : Int32} (hr : rcC S M T N) (hh : zzI M 23 2 = nI i) (hi : i ≤ N) (hc : chT T N i = 123) (hs : s < S1.2.1) (hk : zzk S1 s = 13) (g : gS S S1) (h : FD_Rd_enclosed n S M 23 123 125 dd = some (none, S1, M1)) : FD_Rd_part (n + 1) S M 23 (some s) 79 dd = some (0, S1, zzsR M1 s 7 none) := by
  rw [FDp_s]
  show zzcall (F_Rd_peek S M 23) (fun r62 M => if r62 = (123 : Int32) then (zzcallA S (FD_Rd_enclosed n S M 23 (123 : Int32) (125 : Int32) dd) fun r69 S M => zzopt S 13 (some s) (none) (fun b70 => zzlet (zzsR M b70 7 r69) fun M => zzlet (zzR M b70 7) fun r72 => zzopt S 12 r72 (some ((0 : Int32), S, M)) (fun b73 => some ((1 : Int32), S, M)))) else (zzmk S M 12 0 2 fun b63 S M => zzcall (F_Bl_init S M b63) fun r64 M => zzopt S 13 (some s) (none) (fun b65 => zzlet (zzsR M b65 7 (some b63)) fun M => zzlet (zzR M b65 7) fun r67 => zzopt S 12 r67 (some ((0 : Int32), S, M)) (fun b68 => some ((1 : Int32), S, M))))) = _
  rw [c_peek hr hh hi, pcall, hc, if_pos (show nI 123 = (123 : Int32) from rfl)]
  refine pcallA h g ?_ (gS.rf _)
  have e2 : zzR (zzsR M1 s 7 none) s 7 = none := by simp [plet, pcall, pck, pI_I, pI_L, pI_R, pL_I, pL_L, pL_R, pR_I, pR_L, pR_R]
  rw [poptp hs hk, plet, plet, e2, poptn]
theorem p_O_n {S : zzS} {M : zzM} {T : Nat → Nat} {N i n s : Nat} {dd : Int32} (hr : rcC S M T N) (hh : zzI M 23 2 = nI i) (hi : i ≤ N) (hc : chT T N i ≠ 123) (hs : s < S.2.1) (hk : zzk S s = 13) : FD_Rd_part (n + 1) S M 23 (some s) 79 dd = some (1, zznew S 12 0 2, zzsR (zzclr M S.2.1) s 7 (some S.2.1)) := by
  have hok : ∀ i, i < N → okc (T i) := fun i hi => (hr.2.2.2.2.2 i hi).2
  have hch := chT_le hok i
  have g := gS_new S 12 0 2
  have hs1 := g.k hs hk
  have hne : ¬ nI (chT T N i) = (123 : Int32) := fun e => hc ((peq (a := chT T N i) (b := 123) (by omega) (by omega)).mp e)
  rw [FDp_s]
  show zzcall (F_Rd_peek S M 23) (fun r62 M => if r62 = (123 : Int32) then (zzcallA S (FD_Rd_enclosed n S M 23 (123 : Int32) (125 : Int32) dd) fun r69 S M => zzopt S 13 (some s) (none) (fun b70 => zzlet (zzsR M b70 7 r69) fun M => zzlet (zzR M b70 7) fun r72 => zzopt S 12 r72 (some ((0 : Int32), S, M)) (fun b73 => some ((1 : Int32), S, M)))) else (zzmk S M 12 0 2 fun b63 S M => zzcall (F_Bl_init S M b63) fun r64 M => zzopt S 13 (some s) (none) (fun b65 => zzlet (zzsR M b65 7 (some b63)) fun M => zzlet (zzR M b65 7) fun r67 => zzopt S 12 r67 (some ((0 : Int32), S, M)) (fun b68 => some ((1 : Int32), S, M))))) = _
  rw [c_peek hr hh hi, pcall, if_neg hne]
  refine pmk ?_ (gS.rf _)
  have e2 : zzR (zzsR (zzclr M S.2.1) s 7 (some S.2.1)) s 7 = some S.2.1 := by simp [plet, pcall, pck, pI_I, pI_L, pI_R, pL_I, pL_L, pL_R, pR_I, pR_L, pR_R]
  rw [F_Bl_init, pcall, poptp hs1.1 hs1.2, plet, plet, e2, poptp (show S.2.1 < S.2.1 + 1 by omega) (by unfold zzk zznew; simp)]
theorem r_ifS {S : zzS} {Mc Mm : zzM} {T : Nat → Nat} {N w i m q tl d fu n : Nat} (hB : d < 2 → rBk T N w fu n (d + 1)) (hc : cQ S Mc T N i tl fu) (hm : mQ Mm T N w i m q tl d) (ht : tl < 100) (hmi : m ≤ i) (hqi : q ≤ i) (hd : d ≤ 2) (hx : chT T N i = 63) : sO S T N w i m q tl d fu Mc Mm (FD_Rd_statement (n + 3) S Mc 23 (nI d)) (fun f => zzcall (F_Md_readStatement lwSm Mm 28) (fun _ M => rd f M)) ∨ rF S N w i tl fu 0 Mc Mm (FD_Rd_statement (n + 3) S Mc 23 (nI d)) (fun f => zzcall (F_Md_readStatement lwSm Mm 28) (fun _ M => rd f M)) := by
  have hN := hc.1.2.2.2.2.1
  have hiN := hc.2.2.1
  have hok := hm.1.ok
  have hw := hm.1.2.2.1
  have hS := hc.1.1
  have hS63 := hS.2.2.2
  have hsh : shN (chT T N i) = 5 := by rw [hx]; decide
  have hkd : kdN (chT T N i) = 63 := by rw [hx]; decide
  have hlt := chT_lt (T := T) (N := N) (i := i) (by omega)
  obtain ⟨b1, b2, b3, b4, b5, b6⟩ := cbg_f (kd := kdN (chT T N i)) (op := opN (chT T N i)) hc ht (by omega) (by omega)
  have hm2 : mQ (moM (zzsI (zzsI Mm 28 20 (nI (tl + 1))) 28 16 (nI (i + 1))) w m 5 (nI i)) T N w (i + 1) (m + 1) q (tl + 1) d := ((hm.tl (tl + 1)).at (i + 1)).order (by omega)
  have hf2 : frR w m q d Mm (moM (zzsI (zzsI Mm 28 20 (nI (tl + 1))) 28 16 (nI (i + 1))) w m 5 (nI i)) := ((frR_s (by omega)).tr (frR_s (by omega)) (Nat.le_refl _) (Nat.le_refl _) (Nat.le_refl _)).tr (moM_f (by omega)) (Nat.le_refl _) (Nat.le_refl _) (Nat.le_refl _)
  obtain ⟨v1, v2, v3, v4, v5, v6⟩ := moM_v (M := zzsI (zzsI Mm 28 20 (nI (tl + 1))) 28 16 (nI (i + 1))) (w := w) (m := m) (kd := 5) (wh := nI i)
  have hzn := gS_new S 13 0 9
  have hzk : zzk (zznew S 13 0 9) S.2.1 = 13 := by unfold zzk zznew; simp
  have hzl : S.2.1 < (zznew S 13 0 9).2.1 := by show S.2.1 < S.2.1 + 1; omega
  have hl5 : zzsl 5 = 3 := by decide
  rcases P_E (n := n + 1) (dd := nI d) hzl hzk (by omega) b1 hm2 (by omega) with ⟨S0, Mc0, Mm0, i0, q0, e1, e2, e3, e4, e5, e6, e7, e8, e9, e10, e11, e12, e13⟩ | ⟨p, Mc1, Mm1, a1, a2, a3, a4, a5, a6, a7, -⟩
  · have hs0 := e3.k hzl hzk
    have hm3 := e6.ord (a := 36) (k := m) (v := nI q) (by omega) (by omega)
    have hf3 := (hf2.tr (e7.R2 m d) (Nat.le_refl _) (Nat.le_refl _) (Nat.le_refl _)).tr (frR_o (a := 36) (k0 := m) (v := nI q) (by omega) (Nat.le_refl m) (by omega)) (Nat.le_refl _) (Nat.le_refl _) (Nat.le_refl _)
    have h12 : S0.2.1 = S.2.1 + 1 + 1 := e12
    have h13 : S0.2.2 ≤ S.2.2 + 9 + (i0 - (i + 1)) := e13
    have hfc0 : fcN S.2.1 Mc Mc0 := b2.tr (e4.N (by omega)) (Nat.le_refl _)
    have hrs := m_rbw (bk := 1) hm (by omega) ht (show m < 600 by omega) (Or.inl ⟨hx, rfl, rfl⟩) e2
    rcases r_encl (n := n) (br := 123) (ec := 125) (kd := 1) (ov := nI m) hB e5 hm3 (by omega) (by omega) hd (Or.inr ⟨rfl, rfl, by decide⟩) with ⟨S1, Mc1, Mm1, i2, m2, q2, t2, k, a1, a2, a3, a4, a5, a6, a7, a8, a9, a10, a11, a12, a13, a14, a15, a16, a17, a18, a19⟩ | H
    · have hi2N := a4.2.2.1
      have hs1 := a2.k hs0.1 hs0.2
      have hb1 : S0.2.1 < S1.2.1 ∧ zzk S1 S0.2.1 = 12 := by
        have e : 2 - d = (1 - d) + 1 := by omega
        rw [e] at a11
        exact ⟨a11.2.1, a11.2.2.1.2.1⟩
      have hstB : ∀ (r : Option Nat) (S9 : zzS) (M9 : zzM), gS S1 S9 → cS58 (n + 2) 1998 S1 (zzsR Mc1 S.2.1 6 (some S0.2.1)) 23 (nI d) 5 (some S.2.1) (nI 2) = some (r, S9, M9) → FD_Rd_statement (n + 3) S Mc 23 (nI d) = some (r, S9, M9) := fun r S9 M9 g9 h9 => by
        refine c_stmt0 hc ht (by rw [hsh]; omega) ?_ ((e3.tr a2).tr g9)
        rw [hsh]
        refine s58_y (q := 1999) (c := 69) e5.1.1 (by omega) (by rw [hl5]; omega) (by omega) (by rw [hl5]; omega) (by decide) e1 e3 ?_ (a2.tr g9)
        exact s58_y (q := 1998) (c := 66) a4.1.1 (by omega) (by rw [hl5]; omega) (by omega) (by rw [hl5]; omega) (by decide) (p_blk (Or.inl ⟨rfl, rfl⟩) hs1.1 hs1.2 hb1.1 hb1.2 a2 a1) a2 h9 g9
      have hp : plM Mm1 w m = nI i := by
        rw [plM, a7.1 33 _ (by omega) (by omega) (by omega), pI_I, if_neg (by decide), (e7.R2 (m + 1) d).1 33 _ (by omega) (by omega) (by omega)]
        exact v2
      have ho : odM Mm1 w m = 5 := by
        rw [odM, a7.1 32 _ (by omega) (by omega) (by omega), pI_I, if_neg (by decide), (e7.R2 (m + 1) d).1 32 _ (by omega) (by omega) (by omega)]
        exact v1
      have hse : seM Mm1 w m = nI q := by
        rw [seM, a7.1 36 _ (by omega) (by omega) (by omega)]; simp [plet, pcall, pck, pI_I, pI_L, pI_R, pL_I, pL_L, pL_R, pR_I, pR_L, pR_R]
      obtain ⟨c1, c2⟩ := a6.cl
      have hm26 : m2 < 600 := (a11.le).2.1
      have hck : cQ S1 (zzsR Mc1 S.2.1 6 (some S0.2.1)) T N (i2 + 1) t2 fu := a4.w (by omega)
      have hf5 := (hf3.tr a7 (by omega) (by omega) (Nat.le_refl _)).tr c2 (by omega) (by omega) (Nat.le_refl _)
      have hcl0 : F_Md_close lwSm Mm1 28 = zzcall (F_Md_peek lwSm (mcl Mm1 i2 d) 28) fun r32 M => if r32 = (123 : Int32) then (zzcall (F_Md_order lwSm M 28 (17 : Int32) (nI i)) fun r34 M => zzcall (F_Md_aim lwSm M 28 (nI m)) fun r35 M => zzcall (F_Md_open lwSm M 28 (2 : Int32) (123 : Int32) r34) fun r36 M => some ((), M)) else (zzcall (F_Md_aim lwSm M 28 (nI m)) fun r33 M => some ((), M)) := by
        rw [m_close a6 a10 a8 a9 (by omega) hp]
        unfold mcK
        rw [if_pos rfl]
      rw [m_peek c1.1 c1.2.1 (by omega), pcall] at hcl0
      have hgr1 := a18.1
      have hgr2 := a18.2
      have hfc1 : fcN S.2.1 Mc (zzsR Mc1 S.2.1 6 (some S0.2.1)) := (hfc0.tr a3 (by omega)).tr (fcN_r (Nat.le_refl _)) (Nat.le_refl _)
      by_cases h123 : chT T N (i2 + 1) = 123
      · rw [if_pos (show chM T N (i2 + 1) = (123 : Int32) from chM_is hok (v := 123) (by omega) (by omega) h123)] at hcl0
        have c3 := c1.order (kd := 17) (wh := nI i) hm26
        obtain ⟨u1, u2, u3, u4, u5, u6⟩ := moM_v (M := mcl Mm1 i2 d) (w := w) (m := m2) (kd := 17) (wh := nI i)
        have c4 := c3.ord (a := 37) (k := m) (v := nI (m2 + 1)) (by omega) (by omega)
        have hf6 := (hf5.tr (moM_f (kd := 17) (wh := nI i) hm26) (by omega) (by omega) (Nat.le_refl _)).tr (frR_o (a := 37) (k0 := m) (v := nI (m2 + 1)) (by omega) (Nat.le_refl m) (by omega)) (Nat.le_refl _) (by omega) (Nat.le_refl _)
        have hcl : F_Md_close lwSm Mm1 28 = F_Md_open lwSm (zzsI (moM (mcl Mm1 i2 d) w m2 17 (nI i)) 37 (600 * w + m) (nI (m2 + 1))) 28 2 (nI 123) (nI m2) := by
          rw [hcl0, m_order c1.1 c1.2.2.2.1 hm26, pcall, m_aim c3.1 (show m < 600 by omega), pcall, u4]
          exact zc_u _
        have hor1 : ∀ a j, 32 ≤ a → a ≤ 37 → j ≠ m2 → (a ≠ 37 ∨ j ≠ m) → zzI (zzsI (moM (mcl Mm1 i2 d) w m2 17 (nI i)) 37 (600 * w + m) (nI (m2 + 1))) a (600 * w + j) = zzI Mm1 a (600 * w + j) := fun a j g1 g2 g3 g4 => by
          rw [pI_I]
          by_cases h37 : a = 37
          · rw [if_pos h37, if_neg (by omega)]
            exact (u6 a j g1 g2 g3).trans (mcl_o (by omega))
          · rw [if_neg h37]
            exact (u6 a j g1 g2 g3).trans (mcl_o (by omega))
        rcases r_encl (n := n) (br := 123) (ec := 125) (kd := 2) (ov := nI m2) hB hck c4 (by omega) (by omega) hd (Or.inr ⟨rfl, rfl, by decide⟩) with ⟨S2, Mc2, Mm2, i3, m3, q3, t3, k3, d1, d2, d3, d4, d5, d6, d7, d8, d9, d10, d11, d12, d13, d14, d15, d16, d17, d18, d19⟩ | H
        · left
          have hs2 := d2.k hs1.1 hs1.2
          have hb2 : S1.2.1 < S2.2.1 ∧ zzk S2 S1.2.1 = 12 := by
            have e : 2 - d = (1 - d) + 1 := by omega
            rw [e] at d11
            exact ⟨d11.2.1, d11.2.2.1.2.1⟩
          have hst := hstB (some S.2.1) S2 (zzsR Mc2 S.2.1 7 (some S1.2.1)) d2 (s58_y (q := 1997) (c := 79) d4.1.1 (by omega) (by rw [hl5]; omega) (by omega) (by rw [hl5]; omega) (by decide) (p_O_y hck.1 hck.2.1 hck.2.2.1 h123 hs2.1 hs2.2 hb2.1 hb2.2 d2 d1) d2 (s58_end (q := 1996) (by omega) (by rw [hl5]) (by omega)) (gS.rf _))
          obtain ⟨w1, w2⟩ := d6.cl
          have hm36 : m3 < 600 := (d11.le).2.1
          have hpg : plM Mm2 w m2 = nI i := by
            rw [plM, d7.1 33 _ (by omega) (by omega) (by omega), pI_I, if_neg (by decide)]
            exact u2
          have hcl2 : F_Md_close lwSm Mm2 28 = some ((), zzsI (mcl Mm2 i3 d) 37 (600 * w + m2) (nI m3)) := by
            rw [m_close d6 d10 d8 d9 (by omega) hpg]
            unfold mcK
            rw [if_neg (by decide), if_pos rfl, m_aim w1.1 (by omega), pcall, w1.2.2.2.1]
          have hI : ∀ j, zzI (zzsR Mc2 S.2.1 7 (some S1.2.1)) S.2.1 j = zzI (cbg S Mc (kdN (chT T N i)) (opN (chT T N i)) i tl (lnT (fun i => nI (T i)) i)) S.2.1 j := fun j => by
            show zzI Mc2 S.2.1 j = _
            rw [d3.1 S.2.1 j hs1.1 (by omega) (by omega)]
            show zzI Mc1 S.2.1 j = _
            rw [a3.1 S.2.1 j hs0.1 (by omega) (by omega)]
            exact e4.1 S.2.1 j hzl (by omega) (by omega)
          have hR : ∀ j, j ≠ 7 → zzR (zzsR Mc2 S.2.1 7 (some S1.2.1)) S.2.1 j = zzR (zzsR Mc1 S.2.1 6 (some S0.2.1)) S.2.1 j := fun j hj => by
            rw [pR_R, if_pos rfl, if_neg hj]
            exact d3.2.1 S.2.1 j hs1.1
          have hor2 : ∀ a j, 32 ≤ a → a ≤ 37 → j < m2 + 1 → j ≠ m2 → (a ≠ 37 ∨ j ≠ m) → zzI (zzsI (mcl Mm2 i3 d) 37 (600 * w + m2) (nI m3)) a (600 * w + j) = zzI Mm1 a (600 * w + j) := fun a j g1 g2 g3 g4 g5 => by
            rw [pI_I]
            have h0 : zzI (mcl Mm2 i3 d) a (600 * w + j) = zzI Mm1 a (600 * w + j) := by
              rw [mcl_o (by omega), d7.1 a _ g1 g2 (by omega)]
              exact hor1 a j g1 g2 g4 g5
            by_cases h37 : a = 37
            · rw [if_pos h37, if_neg (by omega)]; exact h0
            · rw [if_neg h37]; exact h0
          have hco : ∀ a j, a = 39 ∨ a = 40 → j < q2 → zzI (zzsI (mcl Mm2 i3 d) 37 (600 * w + m2) (nI m3)) a (1000 * w + j) = zzI Mm1 a (1000 * w + j) := fun a j g1 g2 => by
            rw [pI_I, if_neg (by omega), mcl_o (by omega), d7.2.1 a _ g1 (by omega), pI_I, if_neg (by omega), moM_c g1, mcl_o (by omega)]
          have hg1 := d18.1
          have hg2 := d18.2
          refine ⟨S2, _, _, i3 + 1, m3, q3, t3, k3 + k, hst, hzn.tr (e3.tr (a2.tr d2)), (hfc1.tr d3 (by have := a2.1; omega)).tr (fcN_r (Nat.le_refl _)) (Nat.le_refl _), d4.w (by omega), ?_, fun f => ?_, w1.ord (a := 37) (k := m2) (v := nI m3) (by omega) hm26, ((hf6.tr d7 (by omega) (by omega) (Nat.le_refl _)).tr w2 (by omega) (by omega) (Nat.le_refl _)).tr (frR_o (by omega) (by omega) hm26) (Nat.le_refl m) (by omega) (Nat.le_refl _), ⟨by omega, by omega, by omega, i, ?_, ?_, Or.inr (Or.inr (Or.inr (Or.inr (Or.inr (Or.inl ⟨?_, ?_, ?_, S0.2.1, S1.2.1, m2, ?_, ?_, ?_, Or.inr ⟨?_, ?_, ?_, ?_, by omega⟩⟩)))))⟩, by omega, by omega, by omega, by omega, by omega, ⟨by omega, by omega⟩, by omega⟩
          · rw [hR 8 (by omega), pR_R, if_pos rfl, if_neg (by decide), a3.2.1 S.2.1 8 hs0.1, e4.2.1 S.2.1 8 hzl (by omega)]
            exact b6 8
          · show zzcall (F_Md_readStatement lwSm Mm 28) (fun _ M => rd (f + (k3 + k)) M) = _
            rw [hrs, show f + (k3 + k) = f + k3 + k by omega]
            refine (a5 (f + k3)).trans ?_
            rw [hcl]
            refine (d5 f).trans ?_
            rw [hcl2, pcall]
          · obtain ⟨s1, s2, s3, s4, s5, s6⟩ := b5
            exact ⟨s1, ((e3.tr (a2.tr d2)).k s2 s3).1, ((e3.tr (a2.tr d2)).k s2 s3).2, s4, (hI 1).trans s5, (hI 2).trans s6⟩
          · rw [plM, hor2 33 m (by omega) (by omega) (by omega) (by omega) (by omega)]; exact hp
          · rw [hI 0, b3, hkd]
          · rw [odM, hor2 32 m (by omega) (by omega) (by omega) (by omega) (by omega)]; exact ho
          · have e5r : zzR (zzsR Mc2 S.2.1 7 (some S1.2.1)) S.2.1 5 = zzR Mc0 S.2.1 5 := by
              rw [hR 5 (by omega), pR_R, if_pos rfl, if_neg (by decide)]
              exact a3.2.1 S.2.1 5 hs0.1
            rw [e5r, seM, hor2 36 m (by omega) (by omega) (by omega) (by omega) (by omega), show zzI Mm1 36 (600 * w + m) = nI q from hse]
            have ga : agC (S.2.1 + 1) S0.2.1 S0 S2 Mc0 (zzsR Mc2 S.2.1 7 (some S1.2.1)) := ⟨by have := a2.1; have := d2.1; omega, fun a g1 g2 => by
              have g3 : a < S1.2.1 := by omega
              refine ⟨(d2.2.2 a g3).trans (a2.2.2 a g2), fun j => ?_, fun j => ?_⟩
              · exact (d3.1 a j g3 (by omega) (by omega)).trans (a3.1 a j g2 (by omega) (by omega))
              · rw [pR_R, if_neg (by omega), d3.2.1 a j g3, pR_R, if_neg (by omega)]
                exact a3.2.1 a j g2⟩
            obtain ⟨x', fn', cs', z1, z2, z3, z4, z5⟩ := exQ.go (i := 0) (j := 0) (q1 := q3) (S1 := S2) (Mc1 := zzsR Mc2 S.2.1 7 (some S1.2.1)) (Mm1 := zzsI (mcl Mm2 i3 d) 37 (600 * w + m2) (nI m3)) (show exQ S0 Mc0 Mm0 w q0 (S.2.1 + 1) S0.2.1 (zzR Mc0 S.2.1 5) (nI q) from e8) ga ⟨fun a k _ _ _ h => by omega, fun a j g1 g2 => by
              rw [hco a j g1 (by omega), a7.2.1 a _ g1 (by omega), pI_I, if_neg (by omega)]⟩ (by omega)
            exact ⟨x', fn', cs', z1, z2, z3, by omega, z5⟩
          · rw [hR 6 (by omega)]; simp [plet, pcall, pck, pI_I, pI_L, pI_R, pL_I, pL_L, pL_R, pR_I, pR_L, pR_R]
          · simp [plet, pcall, pck, pI_I, pI_L, pI_R, pL_I, pL_L, pL_R, pR_I, pR_L, pR_R]
          · have ga : agC S0.2.1 S1.2.1 S1 S2 Mc1 (zzsR Mc2 S.2.1 7 (some S1.2.1)) := ⟨d2.1, fun a g1 g2 => ⟨d2.2.2 a g2, fun j => d3.1 a j g2 (by omega) (by omega), fun j => by rw [pR_R, if_neg (by omega), d3.2.1 a j g2, pR_R, if_neg (by omega)]⟩⟩
            exact (qB.go (S := S1) (Mc := Mc1) (Mm := Mm1) (show q2 ≤ q3 by omega) ga ⟨fun a j g1 g2 g3 g4 => hor2 a j g1 g2 (by omega) (by omega) (by omega), fun a j g1 g2 => hco a j g1 g2⟩ a11).wd (by omega) (by omega)
          · simp only [odM, pI_I]
            rw [if_neg (by decide), mcl_o (by omega), d7.1 32 _ (by omega) (by omega) (by omega), pI_I, if_neg (by decide)]
            exact u1
          · simp [tgM, pI_I]
          · simp only [tgM, pI_I, if_true]
            rw [if_neg (by omega), mcl_o (by omega), d7.1 37 _ (by omega) (by omega) (by omega), pI_I, if_pos rfl, if_pos rfl]
          · refine (qB.go (S := S2) (Mc := Mc2) (Mm := Mm2) (Nat.le_refl q3) (agC_s (by omega)) ⟨fun a j g1 g2 g3 g4 => ?_, fun a j g1 g2 => ?_⟩ d11).wd (by omega) (Nat.le_refl _)
            · rw [pI_I]
              by_cases h37 : a = 37
              · rw [if_pos h37, if_neg (by omega), mcl_o (by omega)]
              · rw [if_neg h37, mcl_o (by omega)]
            · rw [pI_I, if_neg (by omega), mcl_o (by omega)]
        · right
          refine H.up (S := S) (k := 7) (s := S.2.1) (k0 := k) (tl := tl) (hzn.tr (e3.tr a2)) hfc1.Z hf6.Z (Nat.le_refl _) (by omega) (fun S9 Mc9 g9 z9 => ?_) (fun f => ?_) (by omega) (by omega) (by omega) (by omega) (by omega)
          · have hs9 := g9.k hs1.1 hs1.2
            exact hstB none S9 _ g9 (s58_n (q := 1997) (c := 79) (by omega) (by rw [hl5]; omega) (by omega) (by rw [hl5]; omega) (by decide) (p_O_f hck.1 hck.2.1 hck.2.2.1 h123 hs9.1 hs9.2 g9 z9) g9)
          · show zzcall (F_Md_readStatement lwSm Mm 28) (fun _ M => rd (f + k) M) = _
            rw [hrs]
            refine (a5 f).trans ?_
            rw [hcl]
      · left
        rw [if_neg (show ¬ chM T N (i2 + 1) = (123 : Int32) from chM_ne hok (v := 123) (by omega) (by omega) h123)] at hcl0
        have gO := gS_new S1 12 0 2
        have hst := hstB (some S.2.1) (zznew S1 12 0 2) (zzsR (zzclr (zzsR Mc1 S.2.1 6 (some S0.2.1)) S1.2.1) S.2.1 7 (some S1.2.1)) gO (s58_y (q := 1997) (c := 79) (gO.cl a4.1.1) (by omega) (by rw [hl5]; omega) (by omega) (by rw [hl5]; omega) (by decide) (p_O_n hck.1 hck.2.1 hck.2.2.1 h123 hs1.1 hs1.2) gO (s58_end (q := 1996) (by omega) (by rw [hl5]) (by omega)) (gS.rf _))
        have hcl : F_Md_close lwSm Mm1 28 = some ((), zzsI (mcl Mm1 i2 d) 37 (600 * w + m) (nI m2)) := by
          rw [hcl0, m_aim c1.1 (show m < 600 by omega), pcall, c1.2.2.2.1]
        have hclr : ∀ a, a < S1.2.1 → (∀ j, zzI (zzclr (zzsR Mc1 S.2.1 6 (some S0.2.1)) S1.2.1) a j = zzI (zzsR Mc1 S.2.1 6 (some S0.2.1)) a j) ∧ (∀ j, zzR (zzclr (zzsR Mc1 S.2.1 6 (some S0.2.1)) S1.2.1) a j = zzR (zzsR Mc1 S.2.1 6 (some S0.2.1)) a j) := fun a ha => ⟨fun j => by simp only [zzI, zzclr]; rw [if_neg (by omega)], fun j => by simp only [zzR, zzclr]; rw [if_neg (by omega)]⟩
        have hI : ∀ j, zzI (zzsR (zzclr (zzsR Mc1 S.2.1 6 (some S0.2.1)) S1.2.1) S.2.1 7 (some S1.2.1)) S.2.1 j = zzI (cbg S Mc (kdN (chT T N i)) (opN (chT T N i)) i tl (lnT (fun i => nI (T i)) i)) S.2.1 j := fun j => by
          show zzI (zzclr (zzsR Mc1 S.2.1 6 (some S0.2.1)) S1.2.1) S.2.1 j = _
          rw [(hclr S.2.1 hs1.1).1 j]
          show zzI Mc1 S.2.1 j = _
          rw [a3.1 S.2.1 j hs0.1 (by omega) (by omega)]
          exact e4.1 S.2.1 j hzl (by omega) (by omega)
        have hR : ∀ j, j ≠ 7 → zzR (zzsR (zzclr (zzsR Mc1 S.2.1 6 (some S0.2.1)) S1.2.1) S.2.1 7 (some S1.2.1)) S.2.1 j = zzR (zzsR Mc1 S.2.1 6 (some S0.2.1)) S.2.1 j := fun j hj => by
          rw [pR_R, if_pos rfl, if_neg hj]
          exact (hclr S.2.1 hs1.1).2 j
        have hor1 : ∀ a j, 32 ≤ a → a ≤ 37 → (a ≠ 37 ∨ j ≠ m) → zzI (zzsI (mcl Mm1 i2 d) 37 (600 * w + m) (nI m2)) a (600 * w + j) = zzI Mm1 a (600 * w + j) := fun a j g1 g2 g4 => by
          rw [pI_I]
          by_cases h37 : a = 37
          · rw [if_pos h37, if_neg (by omega)]; exact mcl_o (by omega)
          · rw [if_neg h37]; exact mcl_o (by omega)
        have hco : ∀ a j, a = 39 ∨ a = 40 → zzI (zzsI (mcl Mm1 i2 d) 37 (600 * w + m) (nI m2)) a j = zzI Mm1 a j := fun a j g1 => by
          rw [pI_I, if_neg (by omega)]; exact mcl_o (by omega)
        refine ⟨_, _, _, i2 + 1, m2, q2, t2, k, hst, hzn.tr (e3.tr (a2.tr gO)), (hfc1.tr (fcN_clr (by have := a2.1; omega)) (Nat.le_refl _)).tr (fcN_r (Nat.le_refl _)) (Nat.le_refl _), ?_, ?_, fun f => ?_, c1.ord (a := 37) (k := m) (v := nI m2) (by omega) (by omega), hf5.tr (frR_o (by omega) (Nat.le_refl m) (by omega)) (Nat.le_refl _) (by omega) (Nat.le_refl _), ⟨?_, by omega, by omega, i, ?_, ?_, Or.inr (Or.inr (Or.inr (Or.inr (Or.inr (Or.inl ⟨?_, ?_, ?_, S0.2.1, S1.2.1, m2, ?_, ?_, ?_, Or.inl ⟨⟨?_, ?_, ⟨?_, ?_, ?_⟩, ?_⟩, ?_, rfl⟩⟩)))))⟩, by omega, by omega, by omega, by omega, by omega, ⟨?_, ?_⟩, by omega⟩
        · refine cQ.w ?_ (by omega)
          exact hck.N gO (fcN_clr (Nat.le_refl _)) ((hclr 23 (by have := a2.1; omega)).1 2 |>.trans hck.2.1) (Nat.le_refl _) hi2N (fun x g1 g2 => by omega) ((hclr 23 (by have := a2.1; omega)).1 3) ((hclr 23 (by have := a2.1; omega)).1 4 |>.trans hck.2.2.2.2.1) hck.2.2.2.2.2.1
        · rw [hR 8 (by omega), pR_R, if_pos rfl, if_neg (by decide), a3.2.1 S.2.1 8 hs0.1, e4.2.1 S.2.1 8 hzl (by omega)]
          exact b6 8
        · show zzcall (F_Md_readStatement lwSm Mm 28) (fun _ M => rd (f + k) M) = _
          rw [hrs]
          refine (a5 f).trans ?_
          rw [hcl, pcall]
        · show S.2.1 < S1.2.1 + 1
          omega
        · obtain ⟨s1, s2, s3, s4, s5, s6⟩ := b5
          exact ⟨s1, ((e3.tr (a2.tr gO)).k s2 s3).1, ((e3.tr (a2.tr gO)).k s2 s3).2, s4, (hI 1).trans s5, (hI 2).trans s6⟩
        · rw [plM, hor1 33 m (by omega) (by omega) (by omega)]; exact hp
        · rw [hI 0, b3, hkd]
        · rw [odM, hor1 32 m (by omega) (by omega) (by omega)]; exact ho
        · have e5r : zzR (zzsR (zzclr (zzsR Mc1 S.2.1 6 (some S0.2.1)) S1.2.1) S.2.1 7 (some S1.2.1)) S.2.1 5 = zzR Mc0 S.2.1 5 := by
            rw [hR 5 (by omega), pR_R, if_pos rfl, if_neg (by decide)]
            exact a3.2.1 S.2.1 5 hs0.1
          rw [e5r, seM, hor1 36 m (by omega) (by omega) (by omega), show zzI Mm1 36 (600 * w + m) = nI q from hse]
          have ga : agC (S.2.1 + 1) S0.2.1 S0 (zznew S1 12 0 2) Mc0 (zzsR (zzclr (zzsR Mc1 S.2.1 6 (some S0.2.1)) S1.2.1) S.2.1 7 (some S1.2.1)) := ⟨by have := a2.1; show S0.2.1 ≤ S1.2.1 + 1; omega, fun a g1 g2 => by
            have g3 : a < S1.2.1 := by omega
            refine ⟨(gO.2.2 a g3).trans (a2.2.2 a g2), fun j => ?_, fun j => ?_⟩
            · show zzI (zzclr (zzsR Mc1 S.2.1 6 (some S0.2.1)) S1.2.1) a j = _
              rw [(hclr a g3).1 j]
              exact a3.1 a j g2 (by omega) (by omega)
            · rw [pR_R, if_neg (by omega), (hclr a g3).2 j, pR_R, if_neg (by omega)]
              exact a3.2.1 a j g2⟩
          obtain ⟨x', fn', cs', z1, z2, z3, z4, z5⟩ := exQ.go (i := 0) (j := 0) (q1 := q2) (S1 := zznew S1 12 0 2) (Mc1 := zzsR (zzclr (zzsR Mc1 S.2.1 6 (some S0.2.1)) S1.2.1) S.2.1 7 (some S1.2.1)) (Mm1 := zzsI (mcl Mm1 i2 d) 37 (600 * w + m) (nI m2)) (show exQ S0 Mc0 Mm0 w q0 (S.2.1 + 1) S0.2.1 (zzR Mc0 S.2.1 5) (nI q) from e8) ga ⟨fun a k _ _ _ h => by omega, fun a j g1 g2 => by
            rw [hco a _ g1, a7.2.1 a _ g1 (by omega), pI_I, if_neg (by omega)]⟩ (by omega)
          exact ⟨x', fn', cs', z1, z2, z3, by show x' < S1.2.1 + 1; omega, z5⟩
        · rw [hR 6 (by omega)]; simp [plet, pcall, pck, pI_I, pI_L, pI_R, pL_I, pL_L, pL_R, pR_I, pR_L, pR_R]
        · simp [plet, pcall, pck, pI_I, pI_L, pI_R, pL_I, pL_L, pL_R, pR_I, pR_L, pR_R]
        · have ga : agC S0.2.1 S1.2.1 S1 (zznew S1 12 0 2) Mc1 (zzsR (zzclr (zzsR Mc1 S.2.1 6 (some S0.2.1)) S1.2.1) S.2.1 7 (some S1.2.1)) := ⟨gO.1, fun a g1 g2 => ⟨gO.2.2 a g2, fun j => (hclr a g2).1 j, fun j => by rw [pR_R, if_neg (by omega), (hclr a g2).2 j, pR_R, if_neg (by omega)]⟩⟩
          exact (qB.go (S := S1) (Mc := Mc1) (Mm := Mm1) (Nat.le_refl q2) ga ⟨fun a j g1 g2 g3 g4 => hor1 a j g1 g2 (by omega), fun a j g1 _ => hco a _ g1⟩ a11).wd (by omega) (by show S1.2.1 ≤ S1.2.1 + 1; omega)
        · omega
        · show S1.2.1 < S1.2.1 + 1; omega
        · show S1.2.1 < S1.2.1 + 1; omega
        · unfold zzk zznew; simp
        · omega
        · rw [pR_R, if_neg (by omega)]
          simp [zzR, zzclr]
        · simp [tgM, pI_I]
        · show S1.2.1 + 1 ≤ _; omega
        · show S1.2.2 + 2 ≤ _; omega
    · right
      refine H.up (S := S) (k := 6) (s := S.2.1) (k0 := 0) (tl := tl) (hzn.tr e3) hfc0.Z hf3.Z (Nat.le_refl _) (by omega) (fun S1 Mc1 g1 z1 => ?_) (fun f => ?_) (by omega) (by omega) (by omega) (by omega) (by omega)
      · refine c_stmt0 hc ht (by rw [hsh]; omega) ?_ (e3.tr g1)
        rw [hsh]
        refine s58_y (q := 1999) (c := 69) e5.1.1 (by omega) (by rw [hl5]; omega) (by omega) (by rw [hl5]; omega) (by decide) e1 e3 ?_ g1
        have hs1 := g1.k hs0.1 hs0.2
        exact s58_n (q := 1998) (c := 66) (by omega) (by rw [hl5]; omega) (by omega) (by rw [hl5]; omega) (by decide) (p_blk_n (Or.inl ⟨rfl, rfl⟩) hs1.1 hs1.2 g1 z1) g1
      · show zzcall (F_Md_readStatement lwSm Mm 28) (fun _ M => rd (f + 0) M) = _
        rw [hrs]
        rfl
  · right
    have hwr : zzI (zzsI Mm1 36 (600 * w + m) (nI q)) 28 17 = nI p := by rw [pI_I, if_neg (by decide)]; exact a6
    have hrs := m_rbw (bk := 1) hm (by omega) ht (show m < 600 by omega) (Or.inl ⟨hx, rfl, rfl⟩) a2
    have e1 : FD_Rd_statement (n + 3) S Mc 23 (nI d) = some (none, zznew S 13 0 9, Mc1) := by
      refine c_stmt0 hc ht (by rw [hsh]; omega) ?_ (gS.rf _)
      rw [hsh]
      exact s58_n (q := 1999) (c := 69) (by omega) (by rw [hl5]; omega) (by omega) (by rw [hl5]; omega) (by decide) a1 (gS.rf _)
    refine rF_w (t2 := tl + 1) (y := i + 1) (p := p) e1 hzn (b2.tr (a3.N (by omega)) (Nat.le_refl _)).Z a4 a5 (Mm1 := zzsI Mm1 36 (600 * w + m) (nI q)) (fun f => ?_) hwr (by omega) ((hf2.Z.tr (a7.R2 m d).Z).tr (frR_o (m := m) (q := q) (d := d) (by omega) (Nat.le_refl m) (by omega)).Z) (by omega) (by omega) (by omega) (by omega) ⟨by show S.2.1 + 1 ≤ _; omega, by show S.2.2 + 9 ≤ _; omega⟩
    show zzcall (F_Md_readStatement lwSm Mm 28) (fun _ M => rd f M) = _
    rw [hrs, m_open_w (by rw [hwr]; exact nI_m1 (by omega)), pcall]
