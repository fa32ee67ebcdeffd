/-! how a part of a walk ends in both -/
def wO (S : zzS) (w lim : Nat) (z : Prop) (l c h j b0 t : Nat) (Mc Mm : zzM) (G : Nat → Option (Int32 × zzM)) (x : Option (Int32 × zzM)) : Prop := ∃ e Mc1 Mm1 o1 ll1 t1 k, x = some (e, Mc1) ∧ dW S Mc1 Mm1 w o1 ll1 t1 ∧ t ≤ t1 ∧ t1 ≤ lim ∧ fw l h c Mc Mc1 Mm Mm1 ∧ k ≤ 3 * (t1 - t) + b0 ∧
  ((e = 0 ∧ z ∧ (∀ f, G (f + k) = rn f Mm1) ∧ mS Mm1 j c h ∧ errS Mc Mc1) ∨
   (e = 1 ∧ zzI Mm1 28 55 = nI h ∧ d0 Mm1 ∧ ∃ r kd v s p, (∀ f, G (f + k) = rs r Mm1 kd (nI p) v f) ∧ 1900 + h ≤ r ∧ kd ≠ 0 ∧ zzI Mc1 19 9 = kd ∧ zzR Mc1 19 10 = some s ∧ zzI Mc1 19 11 = v ∧ stP S Mc1 Mm1 w s p) ∨
   (e = 2 ∧ (∀ f, G (f + k + 1) = rn f Mm1) ∧ zzI Mm1 28 49 = 1 ∧ zzI Mm1 28 50 = 2))
theorem wO.pre {S : zzS} {w lim : Nat} {z : Prop} {l c h j b0 b1 t t2 k0 : Nat} {Mc Mm Mc2 Mm2 : zzM} {G G2 : Nat → Option (Int32 × zzM)} {x : Option (Int32 × zzM)} (hG : ∀ f, G (f + k0) = G2 f) (hf : fw l h c Mc Mc2 Mm Mm2) (he : errS Mc Mc2) (ht : t ≤ t2) (hk : k0 + b1 ≤ 3 * (t2 - t) + b0) (H : wO S w lim z l c h j b1 t2 Mc2 Mm2 G2 x) : wO S w lim z l c h j b0 t Mc Mm G x := by
  obtain ⟨e, Mc1, Mm1, o1, ll1, t1, k, h1, h2, h3, h4, h5, h6, h7⟩ := H
  refine ⟨e, Mc1, Mm1, o1, ll1, t1, k + k0, h1, h2, by omega, h4, hf.tr h5, by omega, ?_⟩
  rcases h7 with ⟨a1, a2, a3, a4, a5⟩ | ⟨a1, a2, a3, r, kd, v, s, p, a4, a5⟩ | ⟨a1, a2, a3⟩
  · exact Or.inl ⟨a1, a2, fun f => by rw [← Nat.add_assoc, hG, a3], a4, he.tr a5⟩
  · exact Or.inr (Or.inl ⟨a1, a2, a3, r, kd, v, s, p, fun f => by rw [← Nat.add_assoc, hG, a4], a5⟩)
  · exact Or.inr (Or.inr ⟨a1, fun f => by rw [show f + (k + k0) + 1 = f + k + 1 + k0 by omega, hG, a2], a3⟩)
theorem wO.bind {S : zzS} {w lim : Nat} {z1 z : Prop} {l c h j b1 b2 t l1 c1 h1 j1 : Nat} {Mc Mm : zzM} {G : Nat → Option (Int32 × zzM)} {x : Option (Int32 × zzM)} {K : Int32 → zzM → Option (Int32 × zzM)} (H : wO S w lim z1 l1 c1 h1 j1 b1 t Mc Mm G x) (hl : l ≤ l1) (hh : h ≤ h1) (hc : c ≤ c1)
    (hd : ∀ Mc1 Mm1 o1 ll1 t1, z1 → dW S Mc1 Mm1 w o1 ll1 t1 → t ≤ t1 → t1 ≤ lim → fw l1 h1 c1 Mc Mc1 Mm Mm1 → mS Mm1 j1 c1 h1 → errS Mc Mc1 → wO S w lim z l c h j b2 t1 Mc1 Mm1 (fun f => rn f Mm1) (K 0 Mc1))
    (hf : ∀ Mc1 Mm1 o1 ll1 t1 r kd v s p, dW S Mc1 Mm1 w o1 ll1 t1 → t ≤ t1 → t1 ≤ lim → fw l1 h1 c1 Mc Mc1 Mm Mm1 → zzI Mm1 28 55 = nI h1 → d0 Mm1 → 1900 + h1 ≤ r → kd ≠ 0 → zzI Mc1 19 9 = kd → zzR Mc1 19 10 = some s → zzI Mc1 19 11 = v → stP S Mc1 Mm1 w s p → wO S w lim False l c h j b2 t1 Mc1 Mm1 (fun f => rs r Mm1 kd (nI p) v f) (K 1 Mc1))
    (hs : ∀ M, K 2 M = some (2, M)) : wO S w lim z l c h j (b1 + b2) t Mc Mm G (zzcall x K) := by
  obtain ⟨e, Mc1, Mm1, o1, ll1, t1, k, rfl, g2, g3, g4, g5, g6, g7⟩ := H
  rw [pcall]
  rcases g7 with ⟨rfl, a2, a3, a4, a5⟩ | ⟨rfl, a2, a3, r, kd, v, s, p, a4, a5, a6, a7, a8, a9, a10⟩ | ⟨rfl, a2, a3, a4⟩
  · exact wO.pre (k0 := k) a3 (g5.mo hl hh hc) a5 g3 (by omega) (hd Mc1 Mm1 o1 ll1 t1 a2 g2 g3 g4 g5 a4 a5)
  · obtain ⟨e, Mc2, Mm2, o2, ll2, t2, k2, q1, q2, q3, q4, q5, q6, q7⟩ := hf Mc1 Mm1 o1 ll1 t1 r kd v s p g2 g3 g4 g5 a2 a3 a5 a6 a7 a8 a9 a10
    refine ⟨e, Mc2, Mm2, o2, ll2, t2, k2 + k, q1, q2, by omega, q4, (g5.mo hl hh hc).tr q5, by omega, ?_⟩
    rcases q7 with ⟨_, y2, _⟩ | ⟨y1, y2, y3, r, kd, v, s, p, y4, y5⟩ | ⟨y1, y2, y3⟩
    · exact y2.elim
    · exact Or.inr (Or.inl ⟨y1, y2, y3, r, kd, v, s, p, fun f => by rw [← Nat.add_assoc, a4]; exact y4 f, y5⟩)
    · exact Or.inr (Or.inr ⟨y1, fun f => by rw [show f + (k2 + k) + 1 = f + k2 + 1 + k by omega, a4]; exact y2 f, y3⟩)
  · rw [hs]
    exact ⟨2, Mc1, Mm1, o1, ll1, t1, k, rfl, g2, g3, g4, g5.mo hl hh hc, by omega, Or.inr (Or.inr ⟨rfl, a2, a3, a4⟩)⟩
/-- the end at once -/
theorem wO_done {S : zzS} {w lim : Nat} {l c h j b0 t o ll : Nat} {Mc Mm : zzM} (hD : dW S Mc Mm w o ll t) (ht : t ≤ lim) (hm : mS Mm j c h) : wO S w lim True l c h j b0 t Mc Mm (fun f => rn f Mm) (some (0, Mc)) := ⟨0, Mc, Mm, o, ll, t, 0, rfl, hD, Nat.le_refl t, ht, fw.rf _ _ _ _ _, by omega, Or.inl ⟨rfl, trivial, fun _ => rfl, hm, errS.rf _⟩⟩
theorem wO_fail {S : zzS} {w lim : Nat} {z : Prop} {l c h j b0 t o ll r s p : Nat} {kd v : Int32} {Mc Mm : zzM} (hD : dW S Mc Mm w o ll t) (ht : t ≤ lim) (h55 : zzI Mm 28 55 = nI h) (h49 : d0 Mm) (hr : 1900 + h ≤ r) (hk : kd ≠ 0) (h1 : zzI Mc 19 9 = kd) (h2 : zzR Mc 19 10 = some s) (h3 : zzI Mc 19 11 = v) (hs : stP S Mc Mm w s p) : wO S w lim z l c h j b0 t Mc Mm (fun f => rs r Mm kd (nI p) v f) (some (1, Mc)) := ⟨1, Mc, Mm, o, ll, t, 0, rfl, hD, Nat.le_refl t, ht, fw.rf _ _ _ _ _, by omega, Or.inr (Or.inl ⟨rfl, h55, h49, r, kd, v, s, p, fun _ => rfl, hr, hk, h1, h2, h3, hs⟩)⟩
theorem wO_spent {S : zzS} {w lim : Nat} {z : Prop} {l c h j b0 t o ll i : Nat} {kd : Int32} {Mc Mm : zzM} (hD : dW S Mc Mm w o ll t) (ht : t = lim) (hm : mS Mm i c h) (hl : zzL Mm 28 34 = lN lim) (hi : i < 600) (hk : odM Mm w i = kd) (hs : kd = 1 ∨ kd = 2 ∨ kd = 3 ∨ kd = 4 ∨ kd = 5 ∨ kd = 6 ∨ kd = 7 ∨ kd = 9 ∨ kd = 12 ∨ kd = 13 ∨ kd = 14 ∨ kd = 15 ∨ kd = 16 ∨ kd = 18) : wO S w lim z l c h j b0 t Mc Mm (fun f => rn f Mm) (some (2, Mc)) := by
  subst ht
  have hR := hD.1.2.1.1
  have hw1 := hD.1.2.2.1
  have hw := hD.1.2.2.2.1
  have h35 := hD.1.2.2.2.2.2.2.2.1
  have hn : nmF Mm (zzsI (zzsI (zzsI Mm 28 52 (nI (i + 1))) 28 50 2) 28 49 1) := ((nmF_s _ (by omega)).tr (nmF_s _ (by omega))).tr (nmF_s _ (by omega))
  refine ⟨2, Mc, _, o, ll, t, 0, rfl, hD.neu (ncF.rf _) hn, Nat.le_refl t, Nat.le_refl t, ⟨fcC.rf _, fcH.rf _ _, hn.C, ⟨fun a h1 h2 j _ => ?_, fun j _ => rfl, fun j _ => rfl, fun j _ => rfl⟩⟩, by omega, Or.inr (Or.inr ⟨rfl, fun f => ?_, rfl, rfl⟩)⟩
  · simp only [plet, pcall, pck, pI_I, pI_L, pI_R, pL_I, pL_L, pL_R, pR_I, pR_L, pR_R]; rw [if_neg (by omega), if_neg (by omega), if_neg (by omega)]
  · show rn (f + 1) Mm = _
    rw [rn_s hm.2.2.2, wk_st hR hw1 hw hi hm.1 hk hs, m_spent (M := zzsI Mm 28 52 (nI (i + 1))) hR hw hi h35 hl, pcall]
/-- the static context of a walk -/
def wX (S : zzS) (Mc Mm : zzM) (w lim : Nat) : Prop := lim ≤ 300 ∧ zzI Mc 27 4 = nI lim ∧ zzL Mm 28 34 = lN lim ∧ zzI Mc 27 5 = zzI Mm 28 32 ∧ ∃ sc fu, zzR Mc 27 3 = some sc ∧ sc < S.2.1 ∧ zzk S sc = 11 ∧ (sc < 5 ∨ 28 ≤ sc) ∧ zzR Mc sc 1 = some fu ∧ fuR S Mc Mm w fu
theorem wX.go {S : zzS} {Mc Mm Mc1 Mm1 : zzM} {w lim l h c : Nat} (H : wX S Mc Mm w lim) (f : fw l h c Mc Mc1 Mm Mm1) : wX S Mc1 Mm1 w lim := by
  obtain ⟨h1, h2, h3, h4, sc, fu, h5, h6, h7, h8, h9, h10⟩ := H
  obtain ⟨f1, f2, f3, f4⟩ := f
  exact ⟨h1, f2.2.2.1.trans h2, f3.2.2.trans h3, by rw [f2.2.2.2.1, h4, f3.2.1 32 (by omega)], sc, fu, f2.2.2.2.2.trans h5, h6, h7, h8, by rw [(f1 sc h8).2]; exact h9, h10.go f1 f3⟩
theorem psS.fw {d : Nat} {top : Prop} {S : zzS} {Mc Mm Mc1 Mm1 : zzM} {w s i j l h c : Nat} (f : fw l h c Mc Mc1 Mm Mm1) (H : psS (psB S Mc Mm w d) top S Mc Mm w s i j) : psS (psB S Mc1 Mm1 w d) top S Mc1 Mm1 w s i j := H.go f.1 f.2.2.1 (fun _ _ _ h => h.go f.1 f.2.2.1) (fun _ _ _ h => h.le.1)
/-- from a step's work to the walk -/
theorem wO_op {S : zzS} {w lim l c h b0 t o ll i s p : Nat} {Mc Mm : zzM} {x : Option (Int32 × zzM)} {y : Option (Unit × zzM)} (hD : dW S Mc Mm w o ll t) (ht : t < lim) (hlim : lim ≤ 300) (hm : mS Mm i c h) (hl : l ≤ 6) (hh : h ≤ 16) (hs : stP S Mc Mm w s p) (hrn : ∀ f, rn (f + 1) Mm = zzcall y (fun _ M => rn f M)) (H : oO S w p s (t + 1) (cst Mc t) (mst Mm i t (nI p)) x y) : wO S w lim True l c h (i + 1) b0 t Mc Mm (fun f => rn f Mm) x := by
  obtain ⟨g1, g2, g3, g4, g5⟩ := st_facts (l := l) (p := p) hD (by omega) hm
  rcases H with ⟨Mc1, Mm1, o1, ll1, h1, h2, h3, h4, h5⟩ | ⟨Mc1, Mm1, o1, ll1, kd, v, h1, h2, h3, h4, h5, h6, h7, h8⟩
  · refine ⟨0, Mc1, Mm1, o1, ll1, t + 1, 1, h1, h3, by omega, by omega, g3.tr (h4.w hl), by omega, Or.inl ⟨rfl, trivial, fun f => ?_, ?_, g4.tr h5⟩⟩
    · show rn (f + 1) Mm = _
      rw [hrn, h2, pcall]
    · obtain ⟨q1, q2, q3, q4⟩ := g2
      exact ⟨(h4.2.2.2.2.2 52 (by omega) (by omega)).trans q1, (h4.2.2.2.2.2 53 (by omega) (by omega)).trans q2, (h4.2.2.2.2.2 55 (by omega) (by omega)).trans q3, ⟨(h4.2.2.2.2.2 49 (by omega) (by omega)).trans q4.1, (h4.2.2.2.2.2 50 (by omega) (by omega)).trans q4.2⟩⟩
  · obtain ⟨q1, q2, q3, q4⟩ := g2
    have ff := g3.tr (h5.w (l := l) (h := h) (c := c) hl)
    refine ⟨1, Mc1, Mm1, o1, ll1, t + 1, 1, h1, h4, by omega, by omega, ff, by omega, Or.inr (Or.inl ⟨rfl, (h5.2.2.2.2.2 55 (by omega) (by omega)).trans q3, ⟨(h5.2.2.2.2.2 49 (by omega) (by omega)).trans q4.1, (h5.2.2.2.2.2 50 (by omega) (by omega)).trans q4.2⟩, 2000, kd, v, s, p, fun f => ?_, by omega, h3, h6, h7, h8, hs.go ff.1 ff.2.2.1⟩)⟩
    show rn (f + 1) Mm = _
    rw [hrn, h2, zc_as]
    rfl
/-- a GO -/
theorem wO_go {S : zzS} {w lim : Nat} {z : Prop} {l c h j b0 t o ll i i2 : Nat} {Mc Mm : zzM} {x : Option (Int32 × zzM)} (hD : dW S Mc Mm w o ll t) (hm : mS Mm i c h) (hi : i < 600) (hk : odM Mm w i = 17) (htg : tgM Mm w i = nI i2) (H : ∀ Mm2, dW S Mc Mm2 w o ll t → mS Mm2 i2 c h → fw l h c Mc Mc Mm Mm2 → wO S w lim z l c h j b0 t Mc Mm2 (fun f => rn f Mm2) x) : wO S w lim z l c h j (b0 + 1) t Mc Mm (fun f => rn f Mm) x := by
  have hn : nmF Mm (zzsI (zzsI Mm 28 52 (nI (i + 1))) 28 52 (nI i2)) := (nmF_s _ (by omega)).tr (nmF_s _ (by omega))
  have hf : fw l h c Mc Mc Mm (zzsI (zzsI Mm 28 52 (nI (i + 1))) 28 52 (nI i2)) := ⟨fcC.rf _, fcH.rf _ _, hn.C, ⟨fun a h1 h2 j _ => by simp only [plet, pcall, pck, pI_I, pI_L, pI_R, pL_I, pL_L, pL_R, pR_I, pR_L, pR_R]; rw [if_neg (by omega), if_neg (by omega)], fun j _ => rfl, fun j _ => rfl, fun j _ => rfl⟩⟩
  refine wO.pre (k0 := 1) (t2 := t) (b1 := b0) (fun f => ?_) hf (errS.rf _) (Nat.le_refl t) (by omega) (H _ (hD.neu (ncF.rf _) hn) ⟨rfl, hm.2.1, hm.2.2.1, hm.2.2.2⟩ hf)
  show rn (f + 1) Mm = _
  rw [rn_s hm.2.2.2, wk_go hD.1.2.1.1 hD.1.2.2.1 hD.1.2.2.2.1 hi hm.1 hk, pcall, htg]
/-! the class's statement -/
theorem c_stmt {S : zzS} {Mc : zzM} {n t lim s : Nat} {l c a : Int32} (hS : clS S) (hC : clR Mc) (hs : s < S.2.1) (hk : zzk S s = 13) (h63 : 63 ≤ s) (ha : zzI Mc s 0 = a) (h58 : a ≠ 58) (h1 : zzI Mc 19 8 = nI t) (h2 : zzI Mc 27 4 = nI lim) (h : t < lim) (hb : lim ≤ 300) : FD_Wk_statement S (n + 1) Mc 27 (some s) l c = (if a = 38 then (zzcall (F_Rp_addRule S (cst Mc t) 19 (some s)) fun _ M => some ((0 : Int32), M)) else if a = 39 then F_Wk_setPlace S (cst Mc t) 27 (some s) else if a = 42 then FD_Wk_loop S n (cst Mc t) 27 (some s) l c else if a = 63 then FD_Wk_branch S n (cst Mc t) 27 (some s) l c else if a = 64 then F_Wk_setField S (cst Mc t) 27 (some s) else if a = 65 then FD_Wk_call S n (cst Mc t) 27 (some s) l c else if a = 91 then FD_Wk_act S n (cst Mc t) 27 (some s) l c else if a = 124 then F_Wk_ask S (cst Mc t) 27 (some s) else if a = 126 then FD_Wk_closing S n (cst Mc t) 27 (some s) l c else F_Wk_withValue S (cst Mc t) 27 (some s)) := by
  have hC1 : clR (cst Mc t) := hC
  have e : zzI (cst Mc t) s 0 = a := by rw [cst, pI_I, if_neg (by omega)]; exact ha
  show F_Wk_statement S (FD_Wk_block S n) (FD_Wk_statement S n) (FD_Wk_branch S n) (FD_Wk_loop S n) (FD_Wk_act S n) (FD_Wk_closing S n) (FD_Wk_call S n) Mc 27 (some s) l c = _
  simp only [F_Wk_statement, poptp hs hk, plet, ha, if_neg h58, c_step_y hS hC h1 h2 h hb, pcall, e, zc_id, cR_27_2 hC1, cr_19 hS]
  rw [if_neg (by decide)]
theorem c_stmt_n {S : zzS} {Mc : zzM} {n t lim s : Nat} {l c a : Int32} (hS : clS S) (hC : clR Mc) (hs : s < S.2.1) (hk : zzk S s = 13) (ha : zzI Mc s 0 = a) (h58 : a ≠ 58) (h1 : zzI Mc 19 8 = nI t) (h2 : zzI Mc 27 4 = nI lim) (h : lim ≤ t) (hb : t ≤ 300) : FD_Wk_statement S (n + 1) Mc 27 (some s) l c = some (2, Mc) := by
  show F_Wk_statement S (FD_Wk_block S n) (FD_Wk_statement S n) (FD_Wk_branch S n) (FD_Wk_loop S n) (FD_Wk_act S n) (FD_Wk_closing S n) (FD_Wk_call S n) Mc 27 (some s) l c = _
  simp only [F_Wk_statement, poptp hs hk, plet, ha, if_neg h58, c_step_n hS hC h1 h2 h hb, pcall, if_true]
