/-! run -/
theorem fcC.W {S : zzS} {M M1 : zzM} (h : fcC M M1) : fcW S M M1 := fun a _ ha => h a (by omega)
theorem fmC.W {w : Nat} {M M1 : zzM} (h : fmC M M1) : fmW w M M1 := ⟨fun _ _ => h.1 31 (by omega) (by omega) _, fun a _ h1 h2 _ => h.1 a (by omega) (by omega) _, fun _ _ => h.1 38 (by omega) (by omega) _, fun a _ h1 _ => h.1 a (by omega) (by omega) _⟩
theorem pu_end {S : zzS} {Mc0 M5 Mc2 Mm2 : zzM} {T : Nat → Nat} {N w o ll t o1 ll1 t1 sc : Nat} (H : puX S Mc0 M5 T N w o ll t sc) (hd : dR S Mc2 Mm2 w o1 ll1 t1) (hv : zzL Mc2 17 = zzL Mm2 47) (fc : fcC Mc0 Mc2) (fm : fmW w M5 Mm2) (h29 : ∀ k, zzI Mm2 29 k = zzI M5 29 k) (h1 : zzI Mm2 28 1 = zzI M5 28 1) (h32 : zzI Mm2 28 32 = zzI M5 28 32) (her : erR S Mc2 Mm2 w) : puX S Mc2 Mm2 T N w o1 ll1 t1 sc := by
  obtain ⟨d, va, ⟨x1, x2, x3, x4⟩, fa, h4, hsc, _⟩ := H
  refine ⟨hd, ⟨Or.inr hv, fun j _ => congrFun hv j⟩, ⟨x1, ((fc 0 (by omega)).1 1).trans x2, h1.trans x3, fun i hi => ⟨((fc 1 (by omega)).1 i).trans (x4 i hi).1, (h29 i).trans (x4 i hi).2.1, (x4 i hi).2.2⟩⟩, ?_, ((fc 0 (by omega)).2 4).trans h4, hsc.gw d.1.1 (gS.rf _) fc.W fm, her⟩
  rw [(fc 0 (by omega)).1 2, h32]
  exact fa
theorem mto_W {w : Nat} {M : zzM} {p v kd : Int32} : fmW w M (mto M p v kd) := by
  have h : ∀ a k, a ≠ 28 → zzI (mto M p v kd) a k = zzI M a k := fun a k ha => by
    unfold mto
    rw [pI_I, if_neg ha, pI_I, if_neg ha, pI_I, if_neg ha, pI_I, if_neg ha, pI_I, if_neg ha]
  exact ⟨fun _ _ => h _ _ (by omega), fun _ _ _ _ _ => h _ _ (by omega), fun _ _ => h _ _ (by omega), fun _ _ _ _ => h _ _ (by omega)⟩
theorem dR_mto {S : zzS} {Mc Mm : zzM} {w o ll t : Nat} {p v kd : Int32} (h : dR S Mc Mm w o ll t) : dR S Mc (mto Mm p v kd) w o ll t := by
  obtain ⟨c, ⟨m1, m2, m3, m4, m5⟩, h3, h4, ⟨v1, v2, v3, v4, v5, v6, v7, v8⟩, ⟨k, a1, a2, a3, a4⟩, h7, h8, h9⟩ := h
  have e48 : zzI (mto Mm p v kd) 48 = zzI Mm 48 := rfl
  have e50 : zzI (mto Mm p v kd) 50 = zzI Mm 50 := rfl
  have e51 : zzI (mto Mm p v kd) 51 = zzI Mm 51 := rfl
  refine ⟨c, ⟨m1, m2, m3, m4, m5⟩, h3, h4, ⟨v1, v2, v3, v4, v5, v6, v7, v8⟩, ⟨k, a1, a2, a3, fun i hi => ?_⟩, h7, h8, h9⟩
  obtain ⟨s, e1, e2, e3, e4, e5⟩ := a4 i hi
  exact ⟨s, e1, e2, e3, e4, exR.gw (f := zzI Mm 49 i) (Mm1 := mto Mm p v kd) (gS.rf _) (fun _ _ _ => ⟨fun _ => rfl, fun _ => rfl⟩) mto_W e5⟩
theorem u_lim {u : Int64} (h1 : ¬ u < 1) (h2 : ¬ 300 < u) : ∃ lim, 1 ≤ lim ∧ lim ≤ 300 ∧ u = lN lim := by
  rw [Int64.lt_iff_toInt_lt] at h1 h2
  have e1 : (1 : Int64).toInt = 1 := by decide
  have e3 : (300 : Int64).toInt = 300 := by decide
  rw [e1] at h1
  rw [e3] at h2
  refine ⟨u.toInt.toNat, by omega, by omega, ?_⟩
  apply Int64.toInt_inj.mp
  rw [lN_toInt (by omega)]
  omega
theorem pu_run {S : zzS} {Mc Mm : zzM} (H : puRel S Mc Mm) : lwO_run puRel S Mc Mm := by
  intro u
  have Hr := H
  have t1 : zzI (zzsI Mm 28 0 1) 28 0 = 1 := by simp [plet, pcall, pck, pI_I, pI_L, pI_R, pL_I, pL_L, pL_R, pR_I, pR_L, pR_R]
  have ht : F_Md_run_19 lwSm Mm 28 u 28 = some (0, zzsI Mm 28 0 1) := by
    unfold F_Md_run_19 F_Md_run_20
    rw [plet, plet, t1, if_neg (by decide)]
  by_cases hu1 : u < 1
  · refine Or.inr ⟨0, Mc, zzsI Mm 28 0 1, ?_, ?_, thr t1, pu_junk (pu_0 Hr)⟩
    · unfold FT_Bs_run
      rw [plet, if_pos ((pcmp_lt _ _).mpr hu1)]
    · unfold F_Md_run
      rw [plet, if_pos ((pcmp_lt _ _).mpr hu1), ht]
  · have n1 : ¬ lg_cmp u 1 < 0 := fun h => hu1 ((pcmp_lt _ _).mp h)
    by_cases hu3 : 300 < u
    · have n3 : ¬ lg_cmp u 300 ≤ 0 := fun h => (pcmp_le _ _).mp h hu3
      have p3 : 0 < lg_cmp u 300 := by
        rcases pcmp3 u 300 with ⟨_, h2, _⟩ | ⟨_, h2, _⟩ | ⟨_, _, _, h4⟩
        · exact absurd hu3 h2
        · exact absurd hu3 h2
        · rw [h4]; decide
      refine Or.inr ⟨0, Mc, zzsI Mm 28 0 1, ?_, ?_, thr t1, pu_junk (pu_0 Hr)⟩
      · unfold FT_Bs_run
        rw [plet, if_neg n1, plet, if_neg n3]
      · unfold F_Md_run
        rw [plet, if_neg n1, plet, if_pos p3, ht]
    · left
      have y3 : lg_cmp u 300 ≤ 0 := (pcmp_le _ _).mpr hu3
      have q3 : ¬ 0 < lg_cmp u 300 := by
        rcases pcmp3 u 300 with ⟨_, _, _, h4⟩ | ⟨_, _, _, h4⟩ | ⟨_, h2, _⟩
        · rw [h4]; decide
        · rw [h4]; decide
        · exact absurd h2 hu3
      obtain ⟨lim, l1, l3, rfl⟩ := u_lim hu1 hu3
      obtain ⟨T, N, w, o, ll, t, sc, H⟩ := H
      obtain ⟨hS, hC, hR, h63⟩ := pu_dat H
      obtain ⟨⟨⟨_, _, k3, k4, k5, k6⟩, ⟨_, m2, m3, m4, m5⟩, d3, d4, ⟨v1, v2, v3, v4, v5, v6, v7, v8, v9⟩, _⟩, ⟨_, va⟩, tx, fa, h4, hsc, _⟩ := H
      have hC3 : clR (zzsI (zzsI (zzsI (zzsR Mc 27 3 (some sc)) 27 4 (nI lim)) 27 5 (zzI Mc 0 2)) 27 6 0) := clR_R hC (by decide)
      obtain ⟨Mc3, eM3⟩ : ∃ Mc3, Mc3 = zfl (zzsI (zzsI (zzsI (zzsR Mc 27 3 (some sc)) 27 4 (nI lim)) 27 5 (zzI Mc 0 2)) 27 6 0) 17 26 0 := ⟨_, rfl⟩
      have c3I : ∀ a k, a ≠ 27 → zzI Mc3 a k = zzI Mc a k := fun a k ha => by
        rw [eM3, pI_zfl]; simp only [plet, pcall, pck, pI_I, pI_L, pI_R, pL_I, pL_L, pL_R, pR_I, pR_L, pR_R]; rw [if_neg ha, if_neg ha, if_neg ha]
      have c3R : ∀ a k, ¬ (a = 27 ∧ k = 3) → zzR Mc3 a k = zzR Mc a k := fun a k ha => by
        rw [eM3]
        show zzR (zzsR Mc 27 3 (some sc)) a k = _
        rw [pR_R]
        by_cases h27 : a = 27
        · rw [if_pos h27, if_neg (fun e => ha ⟨h27, e⟩)]
        · rw [if_neg h27]
      have c3L : ∀ a, a ≠ 17 → zzL Mc3 a = zzL Mc a := fun a ha => by rw [eM3, zfl_o ha]; rfl
      have c317 : ∀ j, zzL Mc3 17 j = if j < 26 then 0 else zzL Mc 17 j := fun j => by rw [eM3]; simp [zfl, zzL]; rfl
      have hC3' : clR Mc3 := by rw [eM3]; exact hC3
      have hW3 : fcW S Mc Mc3 := fun a _ ha => ⟨fun j => c3I a j (by omega), fun j => c3R a j (by omega)⟩
      have hR0 : mdR (zzsI Mm 28 0 0) := hR
      have hX0 : puX S (cfgt Mc3) (mfgt (zzsI Mm 28 0 0)) T N w o ll 0 sc := by
        refine pu_new hS hC3' hR0 d3 d4 ((c3I 5 1 (by omega)).trans k3) k4 m2 ((c3I 5 3 (by omega)).trans k5) k6 m4 ((c3L 6 (by omega)).trans v1) ((c3L 7 (by omega)).trans v2) ?_ ?_ ?_ ⟨tx.1, (c3I 0 1 (by omega)).trans tx.2.1, tx.2.2.1, fun i hi => ⟨(c3I 1 i (by omega)).trans (tx.2.2.2 i hi).1, (tx.2.2.2 i hi).2.1, (tx.2.2.2 i hi).2.2⟩⟩ ((c3I 0 2 (by omega)).trans fa) ((c3R 0 4 (by omega)).trans h4) (hsc.gw hS (gS.rf _) hW3 (nmP_0 (w := w)).2.2.1)
        · funext j; rw [c3I 20 j (by omega), v4]; rfl
        · funext j; rw [c3I 22 j (by omega), v6]; rfl
        · intro j hj; rw [c317, if_neg (by omega)]; exact va j hj
      obtain ⟨M5, eM5⟩ : ∃ M5, M5 = zzsI (zzsI (zzsI (zzsI (zzsI (zzsL (mfgt (zzsI Mm 28 0 0)) 28 34 (lN lim)) 28 49 0) 28 50 0) 28 52 0) 28 53 0) 28 55 0 := ⟨_, rfl⟩
      have i5 : ∀ a k, ¬ (a = 28 ∧ 49 ≤ k ∧ k ≤ 55) → zzI M5 a k = zzI (mfgt (zzsI Mm 28 0 0)) a k := fun a k ha => by
        rw [eM5]
        simp only [plet, pcall, pck, pI_I, pI_L, pI_R, pL_I, pL_L, pL_R, pR_I, pR_L, pR_R]
        by_cases h28 : a = 28
        · rw [if_pos h28, if_neg (by omega), if_pos h28, if_neg (by omega), if_pos h28, if_neg (by omega), if_pos h28, if_neg (by omega), if_pos h28, if_neg (by omega)]
        · rw [if_neg h28, if_neg h28, if_neg h28, if_neg h28, if_neg h28]
      have l5 : ∀ a k, ¬ (a = 28 ∧ k = 34) → zzL M5 a k = zzL (mfgt (zzsI Mm 28 0 0)) a k := fun a k ha => by
        rw [eM5]
        simp only [pL_I, pL_L]
        by_cases h28 : a = 28
        · rw [if_pos h28, if_neg (fun e => ha ⟨h28, e⟩)]
        · rw [if_neg h28]
      have r5 : M5.2.2 = (mfgt (zzsI Mm 28 0 0)).2.2 := by rw [eM5]; rfl
      have hX5 : puX S (cfgt Mc3) M5 T N w o ll 0 sc := pu_neu hX0 (gS.rf _) (ncQ.rf _ _) ⟨⟨fun k hk => i5 28 k (by omega), fun a k _ _ => i5 a k (by omega), ⟨fun _ _ => i5 _ _ (by omega), fun _ _ _ _ _ => i5 _ _ (by omega), fun _ _ => i5 _ _ (by omega), fun _ _ _ _ => i5 _ _ (by omega)⟩, l5 28 35 (by omega), fun k => l5 47 k (by omega), r5⟩, i5 28 1 (by omega), i5 28 32 (by omega), fun k => i5 29 k (by omega), i5 28 28 (by omega), i5 28 30 (by omega), funext fun k => l5 45 k (by omega), funext fun k => l5 46 k (by omega)⟩
      obtain ⟨mv1, mv2, mv3, mv4, mv5, mv6, mv7, mv8, mv9, mv10⟩ := mfgt_v (M := zzsI Mm 28 0 0)
      obtain ⟨cv1, cv2, cv3, cv4, cv5, cv6, cv7, cv8, cv9⟩ := cfgt_v (M := Mc3)
      have n0 : nI 0 = (0 : Int32) := nI_0
      have hD5 : dW S (cfgt Mc3) M5 w o ll 0 := ⟨hX5.1, by
        funext j
        rw [cfgt_L, l5 47 j (by omega), mfgt_47, c317]
        by_cases hj : j < 26
        · rw [if_pos hj, if_pos hj]
        · rw [if_neg hj, if_neg hj]; exact va j (by omega), 0, Nat.le_refl _, by rw [cfgt_I (by omega), eM3]; simp [pI_zfl, plet, pcall, pck, pI_I, pI_L, pI_R, pL_I, pL_L, pL_R, pR_I, pR_L, pR_R, nI_0], by rw [i5 28 45 (by omega), mv7, n0]⟩
      have hms : mS M5 0 0 0 := by rw [eM5]; refine ⟨?_, ?_, ?_, ?_, ?_⟩ <;> simp [plet, pcall, pck, pI_I, pI_L, pI_R, pL_I, pL_L, pL_R, pR_I, pR_L, pR_R, nI_0]
      have hmr : F_Md_run lwSm Mm 28 (lN lim) = rn 2000 M5 := by
        have t0 : zzI (zzsI Mm 28 0 0) 28 0 = 0 := by simp [plet, pcall, pck, pI_I, pI_L, pI_R, pL_I, pL_L, pL_R, pR_I, pR_L, pR_R]
        have hz : zzokZ 0 = true := by decide
        unfold F_Md_run F_Md_run_20
        rw [plet, if_neg n1, plet, if_neg q3, plet, plet, t0, if_pos rfl, m_forget hR0, pcall, plet, hz, pck, plet, plet, plet, plet, plet, eM5]
      obtain ⟨s1, s2, s3, b, fu, j, e1, e2, e3, e4, e5, e6⟩ := hX5.2.2.2.2.2.1
      have hC5 : clR (cfgt Mc3) := hX5.1.1.2.1
      have hw3 : zzR (cfgt Mc3) 27 3 = some sc := by
        rw [cfgt_R (by omega), eM3]
        show zzR (zzsR Mc 27 3 (some sc)) 27 3 = _
        simp [plet, pcall, pck, pI_I, pI_L, pI_R, pL_I, pL_L, pL_R, pR_I, pR_L, pR_R]
      have hwk : F_Bs_run S Mc 0 (lN lim) = zzcall (FD_Wk_block S 60 (cfgt Mc3) 27 (some b) (nI 0) (nI 0)) (fun r13 M => F_Wk_walked_62 S M 27 r13) := by
        have hCf : clR (zfl (zzsI (zzsI (zzsI (zzsR Mc 27 3 (some sc)) 27 4 (nI lim)) 27 5 (zzI Mc 0 2)) 27 6 0) 17 26 0) := hC3
        unfold F_Bs_run F_Wk_walked
        rw [plet, if_neg n1, plet, if_pos y3, cR_0_9 hC, cr_27 hS, h4, prefp s1 s2, plet, plet, lN_i, plet, plet, plet, plet, cR_27_1 hC3, cr_16 hS, cR_16_1 hC3, cr_17 hS, c_fill (cl_17 hS) (ck_17 hS) (cn_17 hS) (by omega), pcall, cR_27_2 hCf, cr_19 hS, c_forget, pcall, ← eM3, plet, hw3, poptp s1 s2, plet, poptp s1 s2, e1, prefp e3.1 e3.2.1, zc_id]
        rfl
      -- the two ends
      have hfin : ∀ (r : Int32) (Mc2 Mm2 : zzM), F_Bs_run S Mc 0 (lN lim) = some (r, Mc2) → F_Md_run lwSm Mm 28 (lN lim) = some (r, Mm2) → zzI Mm2 28 0 = 0 → puRel S Mc2 Mm2 → ∃ r Mc1 Mm1, F_Lw_run S Mc (some 0) (lN lim) (some 62) = some (0, Mc1) ∧ F_Md_run lwSm Mm 28 (lN lim) = some (r, Mm1) ∧ F_Md_thrown lwSm Mm1 28 = some (0, Mm1) ∧ zzL Mc1 62 0 = r.toInt64 ∧ puRel S Mc1 Mm1 := fun r Mc2 Mm2 g1 g2 g3 g4 => by
        refine ⟨r, zzsL Mc2 62 0 r.toInt64, Mm2, ?_, g2, thr g3, s62, pu_62 g4⟩
        unfold F_Lw_run
        rw [cO_0 hS, g1, pcall, plet, o62 hS]
      have z5 : zzI M5 28 0 = 0 := by rw [i5 28 0 (by omega), mfgt_I (by omega)]; simp [plet, pcall, pck, pI_I, pI_L, pI_R, pL_I, pL_L, pL_R, pR_I, pR_L, pR_R]
      have hmd5 : mdR M5 := hX5.1.2.1.1
      have d35 : zzI M5 28 3 = nI w := hX5.1.2.2.1
      rcases e6 with ⟨e6, rfl⟩ | e6
      · -- the blank script
        have hcb : FD_Wk_block S 60 (cfgt Mc3) 27 (some b) (nI 0) (nI 0) = some (0, cfgt Mc3) := c_block_0 e3 e6 (by omega)
        refine hfin 0 (cfgt Mc3) (zzsI (zzsI M5 28 52 (nI (0 + 1))) 28 49 1) ?_ ?_ ?_ ⟨T, N, w, o, ll, 0, sc, ?_⟩
        · rw [hwk, hcb, pcall]
          unfold F_Wk_walked_62
          rw [if_neg (by decide)]
        · rw [hmr, rn_s hms.2.2.2, wk_end hmd5 d35 d4 (by omega) hms.1 e5, pcall, rn_done (by simp [plet, pcall, pck, pI_I, pI_L, pI_R, pL_I, pL_L, pL_R, pR_I, pR_L, pR_R]), show zzI (zzsI (zzsI M5 28 52 (nI (0 + 1))) 28 49 1) 28 50 = 0 from hms.2.2.2.2]
        · simpa [plet, pcall, pck, pI_I, pI_L, pI_R, pL_I, pL_L, pL_R, pR_I, pR_L, pR_R] using z5
        · refine pu_end hX5 (hX5.1.neu (ncF.rf _) ((nmF_s _ (by omega)).tr (nmF_s _ (by omega)))) hD5.2.1 (fcC.rf _) ?_ (fun k => by simp [plet, pcall, pck, pI_I, pI_L, pI_R, pL_I, pL_L, pL_R, pR_I, pR_L, pR_R]) (by simp [plet, pcall, pck, pI_I, pI_L, pI_R, pL_I, pL_L, pL_R, pR_I, pR_L, pR_R]) (by simp [plet, pcall, pck, pI_I, pI_L, pI_R, pL_I, pL_L, pL_R, pR_I, pR_L, pR_R]) ?_
          · exact ⟨fun _ _ => rfl, fun a k g1 g2 _ => by rw [pI_I, if_neg (by omega), pI_I, if_neg (by omega)], fun _ _ => rfl, fun a k g1 _ => by rw [pI_I, if_neg (by omega), pI_I, if_neg (by omega)]⟩
          · obtain ⟨x1, x2, x3⟩ := hX5.2.2.2.2.2.2
            refine ⟨x1, x2, Or.inl ⟨cv8, ?_⟩⟩
            show zzI M5 28 47 = -1
            rw [i5 28 47 (by omega), mv9]
      · -- a script read
        have hX : wX S (cfgt Mc3) M5 w lim := by
          refine ⟨l3, ?_, ?_, ?_, sc, fu, hw3, s1, s2, s3, e2, e6⟩
          · rw [cfgt_I (by omega), eM3]; simp [pI_zfl, plet, pcall, pck, pI_I, pI_L, pI_R, pL_I, pL_L, pL_R, pR_I, pR_L, pR_R]
          · rw [eM5]; simp [plet, pcall, pck, pI_I, pI_L, pI_R, pL_I, pL_L, pL_R, pR_I, pR_L, pR_R]
          · rw [i5 28 32 (by omega), mfgt_I (by omega), cfgt_I (by omega), eM3]
            simp [pI_zfl, plet, pcall, pck, pI_I, pI_L, pI_R, pL_I, pL_L, pL_R, pR_I, pR_L, pR_R]
            exact fa
        obtain ⟨e, Mc1, Mm1, o1, ll1, t1', k, x1, x2, x3, x4, x5, x6, x7⟩ := w_body e4 hX hD5 (by omega) hms
        have hj := e4.le.2
        have hR1 : mdR Mm1 := x2.1.2.1.1
        have f28 : ∀ k, k < 4 ∨ k = 32 ∨ (46 ≤ k ∧ k ≤ 48) → zzI Mm1 28 k = zzI M5 28 k := x5.2.2.1.2.1
        have f47 : zzI Mm1 28 46 = 0 ∧ zzI Mm1 28 47 = -1 ∧ zzI Mm1 28 48 = 0 := ⟨by rw [f28 46 (by omega), i5 28 46 (by omega), mv8], by rw [f28 47 (by omega), i5 28 47 (by omega), mv9], by rw [f28 48 (by omega), i5 28 48 (by omega), mv10]⟩
        rcases x7 with ⟨rfl, _, y1, y2, y3⟩ | ⟨rfl, y1, y2, r, kd, v, s, p, y3, y4, y5, y6, y7, y8, y9⟩ | ⟨rfl, y1, y2, y3⟩
        · -- done
          obtain ⟨g, hg⟩ : ∃ g, 2000 = g + 1 + 1 + k := ⟨2000 - 2 - k, by omega⟩
          refine hfin 0 Mc1 (zzsI (zzsI Mm1 28 52 (nI (j + 1))) 28 49 1) ?_ ?_ ?_ ⟨T, N, w, o1, ll1, t1', sc, ?_⟩
          · rw [hwk, x1, pcall]
            unfold F_Wk_walked_62
            rw [if_neg (by decide)]
          · rw [hmr, hg]
            refine (y1 (g + 1 + 1)).trans ?_
            have ho : odM Mm1 w j = 20 := by rw [odM, x5.2.2.1.1 32 (by omega) (by omega)]; exact e5
            rw [rn_s y2.2.2.2, wk_end hR1 x2.1.2.2.1 d4 hj y2.1 ho, pcall, rn_done (by simp [plet, pcall, pck, pI_I, pI_L, pI_R, pL_I, pL_L, pL_R, pR_I, pR_L, pR_R]), show zzI (zzsI (zzsI Mm1 28 52 (nI (j + 1))) 28 49 1) 28 50 = 0 from y2.2.2.2.2]
          · show zzI Mm1 28 0 = 0
            rw [f28 0 (by omega)]; exact z5
          · refine pu_end hX5 (x2.1.neu (ncF.rf _) ((nmF_s _ (by omega)).tr (nmF_s _ (by omega)))) x2.2.1 x5.1 ?_ (fun k => ?_) ?_ ?_ ?_
            · refine x5.2.2.1.W.tr ⟨fun _ _ => rfl, fun a k g1 g2 _ => by rw [pI_I, if_neg (by omega), pI_I, if_neg (by omega)], fun _ _ => rfl, fun a k g1 _ => by rw [pI_I, if_neg (by omega), pI_I, if_neg (by omega)]⟩
            · exact x5.2.2.1.1 29 (by omega) (by omega) k
            · exact f28 1 (by omega)
            · exact f28 32 (by omega)
            · refine ⟨?_, ?_, Or.inl ⟨?_, f47.2.1⟩⟩
              · exact (y3.1.trans cv7).trans f47.1.symm
              · exact (y3.2.2.trans cv9).trans f47.2.2.symm
              · exact y3.2.1.trans cv8
        · -- failed
          obtain ⟨g, hg⟩ : ∃ g, 2000 = g + 1 + k := ⟨2000 - 1 - k, by omega⟩
          obtain ⟨r2, rfl⟩ : ∃ r2, r = r2 + 1 := ⟨r - 1, by omega⟩
          refine hfin 1 Mc1 (mto Mm1 (nI p) v kd) ?_ ?_ ?_ ⟨T, N, w, o1, ll1, t1', sc, ?_⟩
          · rw [hwk, x1, pcall]
            unfold F_Wk_walked_62
            rw [if_neg (by decide)]
          · rw [hmr, hg]
            refine (y3 (g + 1)).trans ?_
            show zzcall (F_Md_raise_3 lwSm (r2 + 1) Mm1 28 (nI p) v kd) (fun _ M => rn (g + 1) M) = _
            rw [m_rai_0 (y1.trans n0), pcall, rn_done (by simp [mto, plet, pcall, pck, pI_I, pI_L, pI_R, pL_I, pL_L, pL_R, pR_I, pR_L, pR_R])]
            congr 2
          · show zzI Mm1 28 0 = 0
            rw [f28 0 (by omega)]; exact z5
          · have hmw : fmW w Mm1 (mto Mm1 (nI p) v kd) := mto_W
            refine pu_end hX5 (dR_mto x2.1) x2.2.1 x5.1 (x5.2.2.1.W.tr hmw) (fun k => ?_) ?_ ?_ ?_
            · exact x5.2.2.1.1 29 (by omega) (by omega) k
            · exact f28 1 (by omega)
            · exact f28 32 (by omega)
            · exact ⟨y6, y8, Or.inr ⟨s, p, y7, rfl, y9.gw (gS.rf _) (fun _ _ _ => ⟨fun _ => rfl, fun _ => rfl⟩) hmw⟩⟩
        · -- spent
          obtain ⟨g, hg⟩ : ∃ g, 2000 = g + 1 + k + 1 := ⟨2000 - 2 - k, by omega⟩
          refine hfin 2 (zzsI (zzsR (zzsI Mc1 19 9 0) 19 10 none) 19 11 0) Mm1 ?_ ?_ ?_ ⟨T, N, w, o1, ll1, t1', sc, ?_⟩
          · have hC1 : clR Mc1 := x2.1.1.2.1
            rw [hwk, x1, pcall]
            unfold F_Wk_walked_62 F_Rp_note
            rw [if_pos rfl, cR_27_2 hC1, cr_19 hS, plet, plet, plet, pcall]
          · rw [hmr, hg]
            refine (y1 (g + 1)).trans ?_
            rw [rn_done y2, y3]
          · rw [f28 0 (by omega)]; exact z5
          · refine pu_end hX5 (x2.1.neu (ncF_e _ _ _) (nmF.rf _)) x2.2.1 (x5.1.tr (fun a ha => ⟨fun j => ?_, fun j => ?_⟩)) x5.2.2.1.W (fun k => ?_) ?_ ?_ ?_
            · simp only [plet, pcall, pck, pI_I, pI_L, pI_R, pL_I, pL_L, pL_R, pR_I, pR_L, pR_R]; rw [if_neg (by omega), if_neg (by omega)]
            · simp only [plet, pcall, pck, pI_I, pI_L, pI_R, pL_I, pL_L, pL_R, pR_I, pR_L, pR_R]; rw [if_neg (by omega)]
            · exact x5.2.2.1.1 29 (by omega) (by omega) k
            · exact f28 1 (by omega)
            · exact f28 32 (by omega)
            · refine ⟨?_, ?_, Or.inl ⟨by simp [plet, pcall, pck, pI_I, pI_L, pI_R, pL_I, pL_L, pL_R, pR_I, pR_L, pR_R], f47.2.1⟩⟩
              · rw [f47.1]; simp [plet, pcall, pck, pI_I, pI_L, pI_R, pL_I, pL_L, pL_R, pR_I, pR_L, pR_R]
              · rw [f47.2.2]; simp [plet, pcall, pck, pI_I, pI_L, pI_R, pL_I, pL_L, pL_R, pR_I, pR_L, pR_R]
