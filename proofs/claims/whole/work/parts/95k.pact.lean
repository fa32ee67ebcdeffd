/-! acts -/
theorem dW.act {S : zzS} {Mc Mm : zzM} {w o ll t a : Nat} (hD : dW S Mc Mm w o ll t) (ha : a ≤ t) : dW S (zzsI Mc 27 6 (nI a)) (zzsI Mm 28 45 (nI a)) w o ll t := by
  have f := fX_I (Mc := Mc) (Mm := Mm) (a := 27) (b := 28) (k := 6) (j := 45) (v := nI a) (x := nI a) (by omega) (by omega)
  obtain ⟨⟨h1, h2, h3, h4, ⟨v1, v2, v3, v4, v5, v6, v7, v8⟩, h6, h7, h8, h9⟩, h10, h11⟩ := hD
  exact ⟨⟨h1, h2, h3, h4, ⟨v1, v2, v3, v4, v5, v6, v7, v8⟩, h6.to f.1 f.2.2.1 rfl rfl (fun _ => rfl) (fun _ => rfl), h7, h8, h9⟩, h10, a, ha, rfl, rfl⟩
theorem dW.put {S : zzS} {Mc Mm : zzM} {w o ll t : Nat} (hD : dW S Mc Mm w o ll t) : dW S (zzsI Mc 19 7 1) (zzsI Mm 28 44 1) w o ll t := by
  have f := fX_I (Mc := Mc) (Mm := Mm) (a := 19) (b := 28) (k := 7) (j := 44) (v := 1) (x := 1) (by omega) (by omega)
  obtain ⟨⟨h1, h2, h3, h4, ⟨v1, v2, v3, v4, v5, v6, v7, v8⟩, h6, h7, h8, h9⟩, h10, h11⟩ := hD
  exact ⟨⟨h1, h2, h3, h4, ⟨v1, v2, v3, v4, v5, v6, v7, rfl, rfl⟩, h6.to f.1 f.2.2.1 rfl rfl (fun _ => rfl) (fun _ => rfl), h7, h8, h9⟩, h10, h11⟩
theorem zcp_o {M : zzM} {a0 sp a1 dp n b : Nat} (h : b ≠ a1) : zzL (zzcpL M a0 sp a1 dp n) b = zzL M b := by
  funext j
  simp only [zzL, zzcpL, if_neg h]
theorem zcp_i {M : zzM} {a0 sp a1 n j : Nat} : zzL (zzcpL M a0 sp a1 0 n) a1 j = if j < n then zzL M a0 (sp + j) else zzL M a1 j := by
  simp only [zzL, zzcpL, if_true, va_cpy]
  by_cases h : j < n
  · rw [if_pos (by omega), if_pos h, Nat.sub_zero]
  · rw [if_neg (by omega), if_neg h]
theorem dW.cpf {S : zzS} {Mc Mm : zzM} {w o ll t l h : Nat} (hD : dW S Mc Mm w o ll t) (hl : l < 6) (hk : ∀ j, j < 72 → zzL Mc (9 + l) j = zzL Mm 59 (72 * h + j)) : dW S (zzcpL Mc (9 + l) 0 6 0 72) (zzcpL Mm 59 (72 * h) 45 0 72) w o ll t := by
  obtain ⟨⟨h1, h2, h3, h4, ⟨v1, v2, v3, v4, v5, v6, v7, v8⟩, h6, h7, h8, h9⟩, h10, h11⟩ := hD
  refine ⟨⟨h1, h2, h3, h4, ⟨?_, ?_, v3, v4, v5, v6, v7, v8⟩, h6, h7, ?_, h9⟩, ?_, h11⟩
  · funext j
    rw [zcp_i, zcp_i]
    by_cases hj : j < 72
    · rw [if_pos hj, if_pos hj, Nat.zero_add]; exact hk j hj
    · rw [if_neg hj, if_neg hj, v1]
  · rw [zcp_o (by decide), zcp_o (by decide)]; exact v2
  · rw [zcp_o (by decide)]; exact h8
  · rw [zcp_o (by decide), zcp_o (by decide)]; exact h10
theorem pb_facts {S : zzS} {Mc Mm : zzM} {w o ll t l h c o0 : Nat} (hD : dW S Mc Mm w o ll t) (hl : l < 6) (hk : ∀ j, j < 72 → zzL Mc (9 + l) j = zzL Mm 59 (72 * h + j)) (ho1 : zzI Mc 15 l = nI o0) (ho2 : zzI Mm 60 h = nI o0) (ho : o0 ≤ 12) : dW S (zzsI (cpb Mc l) 19 7 1) (mpb Mm h) w o0 ll t ∧ fw l h c Mc (zzsI (cpb Mc l) 19 7 1) Mm (mpb Mm h) ∧ zzI (mpb Mm h) 28 55 = nI h ∧ (zzI (mpb Mm h) 28 49 = zzI Mm 28 49 ∧ zzI (mpb Mm h) 28 50 = zzI Mm 28 50) ∧ errS Mc (zzsI (cpb Mc l) 19 7 1) := by
  refine ⟨?_, ⟨fun a ha => ⟨fun j => ?_, fun _ => rfl⟩, ⟨fun a h1 h2 h3 j => ?_, fun j hj => rfl, rfl, rfl, rfl⟩, ⟨fun a h1 h2 j => ?_, fun k hk => ?_, ?_⟩, ⟨fun a h1 h2 j hj => ?_, fun j hj => rfl, fun j hj => ?_, fun j hj => rfl⟩⟩, rfl, ⟨rfl, rfl⟩, ⟨rfl, rfl, rfl⟩⟩
  · unfold cpb mpb
    rw [ho1, ho2]
    exact (((hD.neu (ncF.rf _) (show nmF Mm (mr1 Mm h) from (nmF_s _ (by omega)).tr (nmF_s _ (by omega)))).obj ho).cpf hl hk).put
  · show zzI (zzsI (zzsI Mc 5 1 (zzI Mc 15 l)) 19 7 1) a j = _
    simp only [plet, pcall, pck, pI_I, pI_L, pI_R, pL_I, pL_L, pL_R, pR_I, pR_L, pR_R]
    rw [if_neg (by omega), if_neg (by omega)]
  · show zzL (cpb Mc l) a j = _
    rw [cpb, zcp_o (by omega)]
    rfl
  · show zzI (zzsI (zzsI (mr1 Mm h) 28 28 (zzI Mm 60 h)) 28 44 1) a j = _
    simp only [mr1, plet, pcall, pck, pI_I, pI_L, pI_R, pL_I, pL_L, pL_R, pR_I, pR_L, pR_R]
    rw [if_neg (by omega), if_neg (by omega), if_neg (by omega), if_neg (by omega)]
  · show zzI (zzsI (zzsI (mr1 Mm h) 28 28 (zzI Mm 60 h)) 28 44 1) 28 k = _
    simp only [mr1, plet, pcall, pck, pI_I, pI_L, pI_R, pL_I, pL_L, pL_R, pR_I, pR_L, pR_R, if_true]
    rw [if_neg (by omega), if_neg (by omega), if_neg (by omega), if_neg (by omega)]
  · show zzL (zzcpL (zzsI (mr1 Mm h) 28 28 (zzI Mm 60 h)) 59 (72 * h) 45 0 72) 28 34 = _
    rw [zcp_o (by decide)]
    rfl
  · show zzI (zzsI (zzsI (mr1 Mm h) 28 28 (zzI Mm 60 h)) 28 44 1) a j = _
    simp only [mr1, plet, pcall, pck, pI_I, pI_L, pI_R, pL_I, pL_L, pL_R, pR_I, pR_L, pR_R]
    rw [if_neg (by omega), if_neg (by omega), if_neg (by omega), if_neg (by omega)]
  · show zzL (zzcpL (zzsI (mr1 Mm h) 28 28 (zzI Mm 60 h)) 59 (72 * h) 45 0 72) 59 j = _
    rw [zcp_o (by decide)]
    rfl
abbrev cA62 (S : zzS) (n : Nat) := F_Wk_act_62 S (FD_Wk_block S n) (FD_Wk_statement S n) (FD_Wk_branch S n) (FD_Wk_loop S n) (FD_Wk_act S n) (FD_Wk_closing S n) (FD_Wk_call S n)
theorem c_a62 {S : zzS} {M : zzM} {n l : Nat} (hS : clS S) (hC : clR M) (hl : l < 6) : cA62 S n M 27 (nI l) 1 = some (1, zzsI (cpb M l) 19 7 1) := by
  have hC1 : clR (cpb M l) := hC
  have hz : zzokZ 1 = true := by decide
  simp only [F_Wk_act_62, if_true, cR_27_0 hC, cr_5 hS, c_putBack hS hC hl, pcall, cR_27_2 hC1, cr_19 hS, hz, pck, plet]
theorem c_act {S : zzS} {M : zzM} {n l s : Nat} {c : Int32} (hS : clS S) (hC : clR M) (hs : s < S.2.1) (hk : zzk S s = 13) (h63 : 63 ≤ s) (hl : l < 6) : FD_Wk_act S (n + 1) M 27 (some s) (nI l) c = zzcall (FD_Wk_block S n (ckp (zzsI M 27 6 (zzI M 27 6 + 1)) l) 27 (zzR M s 6) (nI l + 1) c) (fun e N => if e = 0 then (if zzI M 27 6 = zzI N 27 5 then (zzcall (F_Wk_fail S N 27 7 (some s) 0) fun r12 M => cA62 S n M 27 (nI l) r12) else cA62 S n N 27 (nI l) e) else cA62 S n N 27 (nI l) e) := by
  have hC1 : clR (zzsI M 27 6 (zzI M 27 6 + 1)) := hC
  show F_Wk_act S (FD_Wk_block S n) (FD_Wk_statement S n) (FD_Wk_branch S n) (FD_Wk_loop S n) (FD_Wk_act S n) (FD_Wk_closing S n) (FD_Wk_call S n) M 27 (some s) (nI l) c = _
  simp only [F_Wk_act, plet, cR_27_0 hC1, cr_5 hS, c_keep hS hC1 hl, pcall, poptp hs hk]
  rfl
theorem mS.n {M M1 : zzM} {i c h : Nat} (H : mS M i c h) (h1 : ∀ j, 49 ≤ j → j ≤ 55 → zzI M1 28 j = zzI M 28 j) : mS M1 i c h := ⟨(h1 52 (by omega) (by omega)).trans H.1, (h1 53 (by omega) (by omega)).trans H.2.1, (h1 55 (by omega) (by omega)).trans H.2.2.1, (h1 49 (by omega) (by omega)).trans H.2.2.2.1, (h1 50 (by omega) (by omega)).trans H.2.2.2.2⟩
theorem ckp_n {M : zzM} {l : Nat} (hl : l < 6) : ncF M (ckp M l) := by
  refine ⟨fun b j h1 h2 h3 => ?_, fun b j h1 h2 => ?_, fun b j h1 => rfl⟩
  · show zzI (zzsI M 15 l (zzI M 5 1)) b j = _
    rw [pI_I, if_neg h1]
  · rw [ckp, zcp_o (by omega)]; rfl
def mAc (M : zzM) (h a : Nat) : zzM := zzsI (zzsI (zzcpL (mh5 M h 7 (nI a)) 45 0 59 (72 * h) 72) 28 55 (nI (h + 1))) 28 45 (nI (a + 1))
theorem mAc_v {M : zzM} {h a c : Nat} : (∀ j, j < 72 → zzL (mAc M h a) 59 (72 * h + j) = zzL M 45 j) ∧ zzI (mAc M h a) 60 h = zzI M 28 28 ∧ zzI (mAc M h a) 53 h = 7 ∧ zzI (mAc M h a) 54 h = zzI M 28 53 ∧ zzI (mAc M h a) 55 h = nI a ∧ fmH h c M (mAc M h a) ∧ fmC M (mAc M h a) := by
  obtain ⟨v1, v2, v3, v4, v5⟩ := mh5_v (M := M) (h := h) (kd := 7) (g := nI a)
  refine ⟨fun j hj => ?_, v5, v1, v2, v3, ⟨fun b h1 h2 j hj => ?_, fun j hj => ?_, fun j hj => ?_, fun j hj => rfl⟩, ⟨fun b h1 h2 j => ?_, fun k hk => ?_, ?_⟩⟩
  · show zzL (zzcpL (mh5 M h 7 (nI a)) 45 0 59 (72 * h) 72) 59 (72 * h + j) = _
    simp only [zzL, zzcpL, if_true, va_cpy]
    rw [if_pos (by omega), show 0 + (72 * h + j - 72 * h) = j by omega]
    rfl
  · show zzI (zzsI (zzsI (mh5 M h 7 (nI a)) 28 55 (nI (h + 1))) 28 45 (nI (a + 1))) b j = _
    rw [pI_I, if_neg (by omega), pI_I, if_neg (by omega)]
    exact (mh5_f (c := c)).1 b h1 h2 j hj
  · show zzI (mh5 M h 7 (nI a)) 60 j = _
    exact (mh5_f (c := c)).2.1 j hj
  · show zzL (zzcpL (mh5 M h 7 (nI a)) 45 0 59 (72 * h) 72) 59 j = _
    simp only [zzL, zzcpL, if_true, va_cpy]
    rw [if_neg (by omega)]
    rfl
  · show zzI (zzsI (zzsI (mh5 M h 7 (nI a)) 28 55 (nI (h + 1))) 28 45 (nI (a + 1))) b j = _
    rw [pI_I, if_neg (by omega), pI_I, if_neg (by omega)]
    exact mh5_n.1 b j (by omega) (by omega) (by omega)
  · show zzI (zzsI (zzsI (mh5 M h 7 (nI a)) 28 55 (nI (h + 1))) 28 45 (nI (a + 1))) 28 k = _
    rw [pI_I, if_pos rfl, if_neg (by omega), pI_I, if_pos rfl, if_neg (by omega)]
    exact mh5_n.1 28 k (by omega) (by omega) (by omega)
  · show zzL (zzcpL (mh5 M h 7 (nI a)) 45 0 59 (72 * h) 72) 28 34 = _
    rw [zcp_o (by decide)]
    rfl
theorem w_act_ {S : zzS} {Mc Mm : zzM} {w o ll t lim n d i j c h l s p b1 m : Nat} (hB : bOK S w lim n d c (l + 1)) (hX : wX S Mc Mm w lim) (hD : dW S Mc Mm w o ll t) (ht : t < lim) (hm : mS Mm i c h) (hl : l < 6) (hh : h ≤ l) (hst : stP S Mc Mm w s p) (hpl : plM Mm w i = nI p) (hij : i < j) (hj : j < 600) (hod : odM Mm w i = 7) (h6 : zzR Mc s 6 = some b1) (hb1 : psB S Mc Mm w d b1 (i + 1) m) (e1 : odM Mm w m = 8) (e2 : plM Mm w m = nI p) (e4 : j = m + 1) : wO S w lim True l c h j 0 t Mc Mm (fun f => rn f Mm) (FD_Wk_act S (n + 1) (cst Mc t) 27 (some s) (nI l) (nI c)) := by
  have hX0 := hX
  obtain ⟨hlim, hx2, hx3, hx4, -⟩ := hX
  have hst0 := hst
  obtain ⟨q1, q2, q3, q4, q5, q6⟩ := hst
  obtain ⟨g1, g2, g3, g4, g5⟩ := st_facts (l := l) (p := p) hD (by omega) hm
  have hS := hD.1.1.1
  have hC : clR (cst Mc t) := hD.1.1.2.1
  have hR : mdR Mm := hD.1.2.1.1
  have hw := hD.1.2.2.2.1
  have hR1 : mdR (mst Mm i t (nI p)) := hR
  obtain ⟨a, ha1, ha2, ha3⟩ := hD.2.2
  have hc6 : zzI (cst Mc t) 27 6 = nI a := ha2
  have hm45 : zzI (mst Mm i t (nI p)) 28 45 = nI a := ha3
  have hcl := c_act (n := n) (c := nI c) hS hC q2 q3 q1 hl
  have r6 : zzR (cst Mc t) s 6 = some b1 := h6
  rw [hc6, ← nI_succ, ← nI_succ, r6] at hcl
  rw [hcl]
  have hhd : zzcall (F_Md_handle lwSm (mst Mm i t (nI p)) 28 7 (zzI (mst Mm i t (nI p)) 28 45)) (fun _ N => some ((), zzsI N 28 45 (zzI N 28 45 + 1))) = some ((), mAc (mst Mm i t (nI p)) h a) := by
    rw [hm45, m_handle7 hR1 (by omega) g2.2.2.1, pcall]
    have e : zzI (zzsI (zzcpL (mh5 (mst Mm i t (nI p)) h 7 (nI a)) 45 0 59 (72 * h) 72) 28 55 (nI (h + 1))) 28 45 = nI a := ha3
    rw [e, ← nI_succ]
    rfl
  have hrn := fun f => rn_st (y := some ((), mAc (mst Mm i t (nI p)) h a)) hR hD.1.2.2.1 hw (show i < 600 by omega) hm hod (by simp) hD.1.2.2.2.2.2.2.2.1 hx3 ht hlim hpl (by simp only [show ¬ ((7 : Int32) = 1 ∨ (7 : Int32) = 2 ∨ (7 : Int32) = 3) by decide, if_false, if_true]; exact hhd) f
  obtain ⟨s1, s2, s3, s4, s5, s6, s7⟩ := mAc_v (M := mst Mm i t (nI p)) (h := h) (a := a) (c := c)
  have hd2 : dW S (ckp (zzsI (cst Mc t) 27 6 (nI (a + 1))) l) (mAc (mst Mm i t (nI p)) h a) w o ll (t + 1) := by
    refine dW.neu (Mm := mAc (mst Mm i t (nI p)) h a) (dW.act (g1.neu (ncF.rf _) ?_) (by omega)) (ckp_n hl) (nmF.rf _)
    exact (mh5_n.tr zcpL_n).tr (nmF_s _ (by omega))
  have hfw : fw l h c Mc (ckp (zzsI (cst Mc t) 27 6 (nI (a + 1))) l) Mm (mAc (mst Mm i t (nI p)) h a) := by
    refine g3.tr ⟨?_, ⟨fun b h1 h2 h3 k => ?_, fun k hk => ?_, rfl, rfl, rfl⟩, s7, s6⟩
    · refine fcC.tr (M1 := zzsI (cst Mc t) 27 6 (nI (a + 1))) (fun b hb => ⟨fun k => ?_, fun _ => rfl⟩) (ckp_n hl).C
      rw [pI_I, if_neg (by omega)]
    · rw [ckp, zcp_o (by omega)]; rfl
    · show zzI (zzsI (zzsI (cst Mc t) 27 6 (nI (a + 1))) 15 l _) 15 k = _
      rw [pI_I, if_pos rfl, if_neg (by omega)]
      rfl
  have hkp : ∀ k, k < 72 → zzL (ckp (zzsI (cst Mc t) 27 6 (nI (a + 1))) l) (9 + l) k = zzL (mAc (mst Mm i t (nI p)) h a) 59 (72 * h + k) := fun k hk => by
    rw [s1 k hk, ckp, zcp_i, if_pos hk, Nat.zero_add]
    exact congrFun g1.1.2.2.2.2.1.1 k
  have ho1 : zzI (ckp (zzsI (cst Mc t) 27 6 (nI (a + 1))) l) 15 l = nI o := by
    show zzI (zzsI (zzsI (cst Mc t) 27 6 (nI (a + 1))) 15 l _) 15 l = _
    rw [pI_I, if_pos rfl, if_pos rfl]
    exact g1.1.1.2.2.1
  have ho2 : zzI (mAc (mst Mm i t (nI p)) h a) 60 h = nI o := s2.trans g1.1.2.1.2.1
  have ho12 := g1.1.1.2.2.2.1
  have hms : mS (mAc (mst Mm i t (nI p)) h a) (i + 1) c (h + 1) := ⟨g2.1, g2.2.1, rfl, g2.2.2.2⟩
  refine wO.pre (k0 := 1) (b1 := 2) (t2 := t + 1) (G2 := fun f => rn f (mAc (mst Mm i t (nI p)) h a)) (fun f => ?_) hfw g4 (by omega) (by omega) ?_
  · show rn (f + 1) Mm = _
    rw [hrn, pcall]
  · have hle := hb1.le
    have H := hB (h + 1) b1 (i + 1) m _ _ o ll (t + 1) (by omega) (hb1.go hfw.1 hfw.2.2.1) (hX0.go hfw) hd2 (by omega) hms
    refine wO.bind (b1 := 0) (b2 := 2) (l := l) (h := h) (c := c) H (by omega) (by omega) (Nat.le_refl _) ?_ ?_ (fun M => rfl)
    · intro Mc2 Mm2 o2 ll2 t2 _ d1 d2 d3 d4 d5 d6
      have hC2 := d1.1.1.2.1
      have hR2 := d1.1.2.1.1
      have f2 := hfw.2.2.1.tr d4.2.2.1
      have hx4' : zzI Mc2 27 5 = zzI Mm2 28 32 := by
        rw [d4.2.1.2.2.2.1, hfw.2.1.2.2.2.1, hx4, f2.2.1 32 (by omega)]
      have h55a : zzI Mm2 55 h = nI a := (d4.2.2.2.1 55 (by omega) (by omega) h (by omega)).trans s5
      have hnm : nmF Mm2 (zzsI Mm2 28 52 (nI (m + 1))) := nmF_s _ (by omega)
      have hpl2 : plM Mm2 w m = nI p := by rw [plM, f2.1 33 (by omega) (by omega)]; exact e2
      have hrn2 : ∀ f, rn (f + 1) Mm2 = zzcall (F_Md_endAct lwSm (zzsI Mm2 28 52 (nI (m + 1))) 28 (nI p)) (fun _ M => rn f M) := fun f => by
        rw [rn_s d5.2.2.2, wk_acte hR2 d1.1.2.2.1 hw hle.2 d5.1 (by rw [odM, f2.1 32 (by omega) (by omega)]; exact e1), hpl2, zc_as]
      have hxx : ∀ x : Option (Unit × zzM), zzix lwSm 55 (nI h) x = x := fun x => pix (S := lwSm) mn_55 (show h < 16 by omega) (by omega) x
      have h55 : zzI Mm2 28 55 = nI (h + 1) := d5.2.2.1
      have hR2' : mdR (zzsI Mm2 28 52 (nI (m + 1))) := hR2
      have hend : F_Md_endAct lwSm (zzsI Mm2 28 52 (nI (m + 1))) 28 (nI p) = if nI a = zzI Mm2 28 32 then zzcall (F_Md_raise lwSm (zzsI Mm2 28 52 (nI (m + 1))) 28 7 (nI p) 0) (fun _ M => some ((), M)) else some ((), zzsI (zzsI Mm2 28 52 (nI (m + 1))) 28 55 (nI h)) := by
        have z1 : zzI (zzsI Mm2 28 52 (nI (m + 1))) 28 32 = zzI Mm2 28 32 := rfl
        have z2 : zzI (zzsI Mm2 28 52 (nI (m + 1))) 28 55 = nI (h + 1) := h55
        have z3 : zzI (zzsI Mm2 28 52 (nI (m + 1))) 55 h = nI a := h55a
        simp only [F_Md_endAct, plet, z1, z2, nI_pred, mR_58 hR2', mr_55, hxx, pnI (show h < 100000 by omega), z3]
        by_cases hm1 : zzI Mm2 28 32 = -1
        · have hn1 : ¬ nI a = -1 := fun h => by
            have h1 := nI_pos (n := a) (by omega)
            rw [h] at h1
            exact h1 (by decide)
          rw [if_pos hm1, hm1, if_neg hn1]
        · rw [if_neg hm1]
      rw [hx4']
      rw [if_pos rfl]
      by_cases hfa : nI a = zzI Mm2 28 32
      · rw [if_pos hfa] at hend ⊢
        rw [c_fail hS hC2, pcall]
        have hC3 : clR (zzsI (zzsR (zzsI Mc2 19 9 7) 19 10 (some s)) 19 11 0) := (ncF_e _ _ _).R hC2
        rw [c_a62 hS hC3 hl]
        have d1' := (d1.neu (ncF_e (Mc := Mc2) 7 (some s) 0) hnm)
        have hfe : fw l h c Mc2 (zzsI (zzsR (zzsI Mc2 19 9 7) 19 10 (some s)) 19 11 0) Mm2 (zzsI Mm2 28 52 (nI (m + 1))) := by
          refine ⟨(fX_e (Mm := Mm2) 7 (some s) 0).1, (fX_e (Mm := Mm2) 7 (some s) 0).2.1.mo (by omega), hnm.C, ⟨fun b h1 h2 j _ => by simp only [plet, pcall, pck, pI_I, pI_L, pI_R, pL_I, pL_L, pL_R, pR_I, pR_L, pR_R]; rw [if_neg (by omega)], fun j _ => rfl, fun j _ => rfl, fun j _ => rfl⟩⟩
        obtain ⟨p1, p2, p3, p4, p5⟩ := pb_facts (h := h) (c := c) (o0 := o) d1' hl (fun k hk => by
          show zzL Mc2 (9 + l) k = zzL Mm2 59 (72 * h + k)
          rw [d4.2.1.1 (9 + l) (by omega) (by omega) (by omega) k, d4.2.2.2.2.2.1 (72 * h + k) (by omega)]
          exact hkp k hk) (by
          show zzI Mc2 15 l = nI o
          rw [d4.2.1.2.1 l (by omega)]; exact ho1) (by
          show zzI Mm2 60 h = nI o
          rw [d4.2.2.2.2.1 h (by omega)]; exact ho2) ho12
        have ff := hfe.tr p2
        have k53 : zzI (zzsI Mm2 28 52 (nI (m + 1))) 53 h = 7 := (d4.2.2.2.1 53 (by omega) (by omega) h (by omega)).trans s3
        have hstf := hst0.go (hfw.1.tr (d4.1.tr ff.1)) (f2.tr ff.2.2.1)
        refine ⟨1, _, _, o, ll2, t2, 1, rfl, p1, Nat.le_refl _, d3, ff, by omega, Or.inr (Or.inl ⟨rfl, p3, ⟨p4.1.trans d5.2.2.2.1, p4.2.trans d5.2.2.2.2⟩, 1999, 7, 0, s, p, fun f => ?_, by omega, by decide, ?_, ?_, ?_, hstf⟩)⟩
        · show rn (f + 1) Mm2 = _
          rw [hrn2, hend, zc_as]
          show rs (1999 + 1) (zzsI Mm2 28 52 (nI (m + 1))) 7 (nI p) 0 f = _
          rw [rs, m_rai_7 hR2' (by omega) h55 k53]
        · rw [p5.1]; simp [plet, pcall, pck, pI_I, pI_L, pI_R, pL_I, pL_L, pL_R, pR_I, pR_L, pR_R]
        · rw [p5.2.1]; simp [plet, pcall, pck, pI_I, pI_L, pI_R, pL_I, pL_L, pL_R, pR_I, pR_L, pR_R]
        · rw [p5.2.2]; simp [plet, pcall, pck, pI_I, pI_L, pI_R, pL_I, pL_L, pL_R, pR_I, pR_L, pR_R]
      · rw [if_neg hfa] at hend ⊢
        have hnm2 : nmF Mm2 (zzsI (zzsI Mm2 28 52 (nI (m + 1))) 28 55 (nI h)) := hnm.tr (nmF_s _ (by omega))
        have hfe : fw l h c Mc2 Mc2 Mm2 (zzsI (zzsI Mm2 28 52 (nI (m + 1))) 28 55 (nI h)) := ⟨fcC.rf _, fcH.rf _ _, hnm2.C, ⟨fun b h1 h2 j _ => by simp only [plet, pcall, pck, pI_I, pI_L, pI_R, pL_I, pL_L, pL_R, pR_I, pR_L, pR_R]; rw [if_neg (by omega), if_neg (by omega)], fun j _ => rfl, fun j _ => rfl, fun j _ => rfl⟩⟩
        refine ⟨0, Mc2, _, o2, ll2, t2, 1, ?_, d1.neu (ncF.rf _) hnm2, Nat.le_refl _, d3, hfe, by omega, Or.inl ⟨rfl, trivial, fun f => ?_, ⟨?_, d5.2.1, rfl, d5.2.2.2⟩, errS.rf _⟩⟩
        · simp only [F_Wk_act_62]
          rw [if_neg (by decide)]
        · show rn (f + 1) Mm2 = _
          rw [hrn2, hend, pcall]
        · rw [e4]; rfl
    · intro Mc2 Mm2 o2 ll2 t2 r kd v s2 p2 d1 d2 d3 d4 d5 d6 d7 d8 d9 d10 d11 d12
      have hC2 := d1.1.1.2.1
      have hR2 := d1.1.2.1.1
      rw [if_neg (by decide), c_a62 hS hC2 hl]
      obtain ⟨p1, pf, p3, p4, p5⟩ := pb_facts (h := h) (c := c) (o0 := o) d1 hl (fun k hk => by
        rw [d4.2.1.1 (9 + l) (by omega) (by omega) (by omega) k, d4.2.2.2.2.2.1 (72 * h + k) (by omega)]
        exact hkp k hk) (by
        rw [d4.2.1.2.1 l (by omega)]; exact ho1) (by
        rw [d4.2.2.2.2.1 h (by omega)]; exact ho2) ho12
      have k53 : zzI Mm2 53 h = 7 := (d4.2.2.2.1 53 (by omega) (by omega) h (by omega)).trans s3
      obtain ⟨r2, rfl⟩ : ∃ r2, r = r2 + 1 := ⟨r - 1, by omega⟩
      refine ⟨1, _, _, o, ll2, t2, 0, rfl, p1, Nat.le_refl _, d3, pf, by omega, Or.inr (Or.inl ⟨rfl, p3, ⟨p4.1.trans d6.1, p4.2.trans d6.2⟩, r2, kd, v, s2, p2, fun f => ?_, by omega, d8, p5.1.trans d9, p5.2.1.trans d10, p5.2.2.trans d11, d12.go pf.1 pf.2.2.1⟩)⟩
      show rs (r2 + 1) Mm2 kd (nI p2) v f = _
      rw [rs, m_rai_7 hR2 (by omega) d5 k53]
