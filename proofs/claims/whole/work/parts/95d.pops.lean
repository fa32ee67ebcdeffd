/-! the other operations of a step -/
theorem dW.obj {S : zzS} {Mc Mm : zzM} {w o ll t o1 : Nat} (hD : dW S Mc Mm w o ll t) (ho : o1 ≤ 12) : dW S (zzsI Mc 5 1 (nI o1)) (zzsI Mm 28 28 (nI o1)) w o1 ll t := by
  have f := fX_I (Mc := Mc) (Mm := Mm) (a := 5) (b := 28) (k := 1) (j := 28) (v := nI o1) (x := nI o1) (by omega) (by omega)
  obtain ⟨⟨⟨c1, c2, c3, c4, c5, c6⟩, ⟨m1, m2, m3, m4, m5⟩, h3, h4, ⟨v1, v2, v3, v4, v5, v6, v7, v8⟩, h6, h7, h8, h9⟩, h10, h11⟩ := hD
  exact ⟨⟨⟨c1, c2, rfl, ho, c5, c6⟩, ⟨m1, rfl, ho, m4, m5⟩, h3, h4, ⟨v1, v2, v3, v4, v5, v6, v7, v8⟩, h6.to f.1 f.2.2.1 rfl rfl (fun _ => rfl) (fun _ => rfl), h7, h8, h9⟩, h10, h11⟩
theorem dW.lst {S : zzS} {Mc Mm : zzM} {w o ll t l1 : Nat} (hD : dW S Mc Mm w o ll t) (hl : l1 ≤ 20) : dW S (zzsI Mc 5 3 (nI l1)) (zzsI Mm 28 30 (nI l1)) w o l1 t := by
  have f := fX_I (Mc := Mc) (Mm := Mm) (a := 5) (b := 28) (k := 3) (j := 30) (v := nI l1) (x := nI l1) (by omega) (by omega)
  obtain ⟨⟨⟨c1, c2, c3, c4, c5, c6⟩, ⟨m1, m2, m3, m4, m5⟩, h3, h4, ⟨v1, v2, v3, v4, v5, v6, v7, v8⟩, h6, h7, h8, h9⟩, h10, h11⟩ := hD
  exact ⟨⟨⟨c1, c2, c3, c4, rfl, hl⟩, ⟨m1, m2, m3, rfl, hl⟩, h3, h4, ⟨v1, v2, v3, v4, v5, v6, v7, v8⟩, h6.to f.1 f.2.2.1 rfl rfl (fun _ => rfl) (fun _ => rfl), h7, h8, h9⟩, h10, h11⟩
theorem zfl_eq {M N : zzM} {a b n : Nat} {v : Int64} (h : zzL M a = zzL N b) : zzL (zfl M a n v) a = zzL (zfl N b n v) b := by
  funext j
  have h' : M.2.1 a j = N.2.1 b j := congrFun h j
  simp only [zzL, zfl, if_true, h']
theorem zfl_o {M : zzM} {a b n : Nat} {v : Int64} (h : b ≠ a) : zzL (zfl M a n v) b = zzL M b := by
  funext j
  simp only [zzL, zfl, if_neg h]
theorem dW.lfl {S : zzS} {Mc Mm : zzM} {w o ll t : Nat} (hD : dW S Mc Mm w o ll t) : dW S (zfl Mc 7 20 0) (zfl Mm 46 20 0) w o ll t := by
  obtain ⟨⟨h1, h2, h3, h4, ⟨v1, v2, v3, v4, v5, v6, v7, v8⟩, h6, h7, h8, h9⟩, h10, h11⟩ := hD
  refine ⟨⟨h1, h2, h3, h4, ⟨?_, zfl_eq v2, v3, v4, v5, v6, v7, v8⟩, h6, h7, ?_, h9⟩, ?_, h11⟩
  · rw [zfl_o (by decide), zfl_o (by decide)]; exact v1
  · rw [zfl_o (by decide)]; exact h8
  · rw [zfl_o (by decide), zfl_o (by decide)]; exact h10
theorem fX_fl {Mc Mm : zzM} {a b n : Nat} {v : Int64} (ha : a = 7 ∨ a = 17) (hb : b = 46 ∨ b = 47) : fX Mc (zfl Mc a n v) Mm (zfl Mm b n v) := by
  refine ⟨fun _ _ => ⟨fun _ => rfl, fun _ => rfl⟩, ⟨fun c h1 _ h3 j => ?_, fun j _ => rfl, rfl, rfl, rfl⟩, ⟨fun _ _ _ _ => rfl, fun _ _ => rfl, ?_⟩, fun _ _ _ _ _ => rfl, fun j => ?_, fun _ _ _ => rfl⟩
  · rw [zfl_o (by omega)]
  · rw [zfl_o (by omega)]
  · rw [zfl_o (by omega)]
theorem dW.out {S : zzS} {Mc Mm : zzM} {w o ll t k : Nat} (hD : dW S Mc Mm w o ll t) (hk : k < 40) (v : Int32) : dW S (zzsI (zzsI Mc 20 k v) 19 1 (nI (k + 1))) (zzsI (zzsI Mm 48 k v) 28 36 (nI (k + 1))) w o ll t := by
  have f := (fX_I (Mc := Mc) (Mm := Mm) (a := 20) (b := 48) (k := k) (j := k) (v := v) (x := v) (by omega) (by omega)).tr (fX_I (a := 19) (b := 28) (k := 1) (j := 36) (v := nI (k + 1)) (x := nI (k + 1)) (by omega) (by omega))
  obtain ⟨⟨h1, h2, h3, h4, ⟨v1, v2, v3, v4, v5, v6, v7, v8⟩, h6, h7, h8, h9⟩, h10, h11⟩ := hD
  exact ⟨⟨h1, h2, h3, h4, ⟨v1, v2, ⟨k + 1, by omega, rfl, rfl⟩, updI v4 k v, v5, v6, v7, v8⟩, h6.to f.1 f.2.2.1 rfl rfl (fun _ => rfl) (fun _ => rfl), h7, h8, h9⟩, h10, h11⟩
theorem dW.cls {S : zzS} {Mc Mm : zzM} {w o ll t k : Nat} (hD : dW S Mc Mm w o ll t) (hk : k < 20) (v : Int32) : dW S (zzsI (zzsI Mc 22 k v) 19 5 (nI (k + 1))) (zzsI (zzsI Mm 51 k v) 28 42 (nI (k + 1))) w o ll t := by
  have f := (fX_I (Mc := Mc) (Mm := Mm) (a := 22) (b := 51) (k := k) (j := k) (v := v) (x := v) (by omega) (by omega)).tr (fX_I (a := 19) (b := 28) (k := 5) (j := 42) (v := nI (k + 1)) (x := nI (k + 1)) (by omega) (by omega))
  obtain ⟨⟨h1, h2, h3, h4, ⟨v1, v2, v3, v4, v5, v6, v7, v8⟩, h6, h7, h8, h9⟩, h10, h11⟩ := hD
  exact ⟨⟨h1, h2, h3, h4, ⟨v1, v2, v3, v4, ⟨k + 1, by omega, rfl, rfl⟩, updI v6 k v, v7, v8⟩, h6.to f.1 f.2.2.1 rfl rfl (fun _ => rfl) (fun _ => rfl), h7, h8, h9⟩, h10, h11⟩
theorem fX_R {Mc Mm : zzM} {k : Nat} {r : Option Nat} : fX Mc (zzsR Mc 21 k r) Mm Mm := by
  refine ⟨fun c hc => ⟨fun _ => rfl, fun i => ?_⟩, ⟨fun c h1 _ h3 j => rfl, fun i hi => rfl, rfl, rfl, rfl⟩, fmC.rf _, fun c h1 h2 h3 i => rfl, fun i => rfl, fun i h1 h2 => rfl⟩
  rw [pR_R, if_neg (by omega)]
theorem dW.rul {S : zzS} {Mc Mm : zzM} {w o ll t k s : Nat} {f : Int32} (hD : dW S Mc Mm w o ll t) (hk : k < 8) (h3c : zzI Mc 19 3 = nI k) (hs1 : 63 ≤ s) (hs2 : s < S.2.1) (hs3 : zzk S s = 13) (he : exR S Mc Mm w (zzR Mc s 5) f) : dW S (zzsI (zzsR Mc 21 k (some s)) 19 3 (nI (k + 1))) (zzsI (zzsI Mm 49 k f) 28 38 (nI (k + 1))) w o ll t := by
  have g := ((fX_R (Mc := Mc) (Mm := Mm) (k := k) (r := some s)).tr (fX_I (a := 19) (b := 49) (k := 3) (j := k) (v := nI (k + 1)) (x := f) (by omega) (by omega))).tr (fX_I (a := 19) (b := 28) (k := 3) (j := 38) (v := nI (k + 1)) (x := nI (k + 1)) (by omega) (by omega))
  have gc : fcC Mc (zzsI (zzsR Mc 21 k (some s)) 19 3 (nI (k + 1))) := ((fX_R (Mc := Mc) (Mm := Mm) (k := k) (r := some s)).tr (fX_I (a := 19) (b := 49) (k := 3) (j := k) (v := nI (k + 1)) (x := f) (by omega) (by omega))).1
  have gm := g.2.2.1
  obtain ⟨⟨⟨c1, c2, c3, c4, c5, c6⟩, h2, h3, h4, ⟨v1, v2, v3, v4, v5, v6, v7, v8⟩, ⟨k0, r1, r2, r3, r4⟩, h7, h8, h9⟩, h10, h11⟩ := hD
  have ek : k0 = k := by
    rw [r2] at h3c
    exact (peq (by omega) (by omega)).mp h3c
  subst ek
  have hC1 : clR (zzsR Mc 21 k0 (some s)) := clR_R c2 (fun q hq h => by
    have : ∀ q ∈ lwrc, q.1 ≠ 21 := by decide
    exact this q hq h.1)
  refine ⟨⟨⟨c1, hC1, c3, c4, c5, c6⟩, h2, h3, h4, ⟨v1, v2, v3, v4, v5, v6, v7, v8⟩, ⟨k0 + 1, by omega, rfl, rfl, fun i hi => ?_⟩, h7, h8, h9⟩, h10, h11⟩
  by_cases hik : i = k0
  · subst hik
    refine ⟨s, by simp [plet, pcall, pck, pI_I, pI_L, pI_R, pL_I, pL_L, pL_R, pR_I, pR_L, pR_R], hs1, hs2, hs3, ?_⟩
    rw [(gc s (by omega)).2 5]
    have e : zzI (zzsI (zzsI Mm 49 i f) 28 38 (nI (i + 1))) 49 i = f := by simp [plet, pcall, pck, pI_I, pI_L, pI_R, pL_I, pL_L, pL_R, pR_I, pR_L, pR_R]
    rw [e]
    exact he.go gc gm
  · obtain ⟨s0, b1, b2, b3, b4, b5⟩ := r4 i (by omega)
    refine ⟨s0, ?_, b2, b3, b4, ?_⟩
    · simp [plet, pcall, pck, pI_I, pI_L, pI_R, pL_I, pL_L, pL_R, pR_I, pR_L, pR_R, hik, b1]
    · rw [(gc s0 (by omega)).2 5]
      have e : zzI (zzsI (zzsI Mm 49 k0 f) 28 38 (nI (k0 + 1))) 49 i = zzI Mm 49 i := by simp [plet, pcall, pck, pI_I, pI_L, pI_R, pL_I, pL_L, pL_R, pR_I, pR_L, pR_R, hik]
      rw [e]
      exact b5.go gc gm
/-- what the class's withValue and the reference's act have in common -/
theorem w_act_err {S : zzS} {Mc Mm Mc1 Mm1 : zzM} {w o ll t s p i : Nat} {kd er : Int32} {val : Int64} (hD : dW S Mc Mm w o ll t) (hs : s < S.2.1) (hk : zzk S s = 13) (hi : i < 600) (hp : zzI Mm 28 51 = nI p) (n14 : kd ≠ 14) (n15 : kd ≠ 15) (a1 : F_Rk_value S Mc 16 (zzR Mc s 5) = some (val, Mc1)) (a2 : F_Md_ask lwSm Mm 28 (seM Mm w i) = some (if er = 0 then 1 else 0, Mm1)) (a3 : frK Mc Mc1) (a4 : frA Mm Mm1) (a5 : zzI Mc1 16 4 = er) (a6 : zzI Mm1 28 66 = er) (h0 : er ≠ 0) : oO S w p s t Mc Mm (F_Wk_withValue S Mc 27 (some s)) (F_Md_act lwSm Mm 28 kd (nI (600 * w + i))) := by
  obtain ⟨hS, hC, -⟩ := hD.1.1
  obtain ⟨hR, -⟩ := hD.1.2.1
  have hw := hD.1.2.2.2.1
  have hC1 := a3.cR hC
  have g2 : zzI Mm1 28 51 = nI p := (a4.1 28 51 (by omega)).trans hp
  refine oO_fail (kd := er) (v := 0) h0 (hD.KA a3 a4) (fX_KA a3 a4) ?_ ?_
  · simp only [F_Wk_withValue, plet, pcall, pck, pI_I, pI_L, pI_R, pL_I, pL_L, pL_R, pR_I, pR_L, pR_R, cR_27_1 hC, cr_16 hS, poptp hs hk, a1, cR_27_1 hC1, a5, if_neg h0, c_fail hS hC1]
  · simp only [F_Md_act, if_neg n14, if_neg n15, if_true, plet, pcall, pck, pI_I, pI_L, pI_R, pL_I, pL_L, pL_R, pR_I, pR_L, pR_R, mR_10 hR, mr_36, w_ix mn_36 hw hi, w_k hw hi, a2, if_pos (if10.mpr h0), a6, g2]
/-- !, ^, +, < -/
theorem w_act {S : zzS} {Mc Mm : zzM} {w o ll t s p i : Nat} {a kd : Int32} (hD : dW S Mc Mm w o ll t) (hs63 : 63 ≤ s) (hs : s < S.2.1) (hk : zzk S s = 13) (hi : i < 600) (hp : zzI Mm 28 51 = nI p) (ha : zzI Mc s 0 = a) (hak : (a = 33 ∧ kd = 4) ∨ (a = 94 ∧ kd = 12) ∨ (a = 43 ∧ kd = 13) ∨ (a = 60 ∧ kd = 16)) (he : exR S Mc Mm w (zzR Mc s 5) (seM Mm w i)) : oO S w p s t Mc Mm (F_Wk_withValue S Mc 27 (some s)) (F_Md_act lwSm Mm 28 kd (nI (600 * w + i))) := by
  obtain ⟨hS, hC, -⟩ := hD.1.1
  obtain ⟨hR, -⟩ := hD.1.2.1
  have hw := hD.1.2.2.2.1
  obtain ⟨Mc1, Mm1, er, val, a1, a2, a3, a4, a5, a6, a7⟩ := w_val hD he
  have n14 : kd ≠ 14 := by rcases hak with ⟨_, h⟩ | ⟨_, h⟩ | ⟨_, h⟩ | ⟨_, h⟩ <;> subst h <;> decide
  have n15 : kd ≠ 15 := by rcases hak with ⟨_, h⟩ | ⟨_, h⟩ | ⟨_, h⟩ | ⟨_, h⟩ <;> subst h <;> decide
  by_cases h0 : er = 0
  · subst h0
    have hD1 := hD.KA a3 a4
    have hC1 := a3.cR hC
    have hR1 := a4.R hR
    have f0 : ∀ j, zzI Mc1 s j = zzI Mc s j := fun j => a3.1 s j (by omega)
    have g2 : zzI Mm1 28 51 = nI p := (a4.1 28 51 (by omega)).trans hp
    have e7 := a7 rfl
    have hx : F_Wk_withValue S Mc 27 (some s) = (if a = (33 : Int32) then (zzcall (F_Rp_addOutput S Mc1 19 val.toInt32) fun r12 M => some ((0 : Int32), M)) else (if a = (43 : Int32) then (zzcall (F_Bd_create S Mc1 5 val) fun r15 M => if r15 = (-1 : Int32) then (zzcall (F_Wk_fail S M 27 (3 : Int32) (some s) (0 : Int32)) fun r16 M => some (r16, M)) else (some ((0 : Int32), M))) else (if a = (60 : Int32) then (zzcall (F_Bd_resize S Mc1 5 val) fun r19 M => if r19 = 0 then (zzcall (F_Wk_fail S M 27 (3 : Int32) (some s) (0 : Int32)) fun r20 M => some (r20, M)) else (some ((0 : Int32), M))) else (zzcall (F_Wk_fail S Mc1 27 (4 : Int32) (some s) val.toInt32) fun r23 M => some (r23, M))))) := by
      simp only [F_Wk_withValue, plet, pcall, pck, pI_I, pI_L, pI_R, pL_I, pL_L, pL_R, pR_I, pR_L, pR_R, cR_27_1 hC, cr_16 hS, poptp hs hk, a1, cR_27_1 hC1, a5, if_true, f0, ha, cR_27_2 hC1, cr_19 hS, cR_27_0 hC1, cr_5 hS]
      rcases hak with ⟨h, _⟩ | ⟨h, _⟩ | ⟨h, _⟩ | ⟨h, _⟩ <;> subst h
      · rfl
      · rfl
      · rfl
      · rfl
    have hy : F_Md_act lwSm Mm 28 kd (nI (600 * w + i)) = (if kd = (4 : Int32) then (zzlet (zzI Mm1 28 36) fun x20 => if (40 : Int32) ≤ x20 then (some ((), Mm1)) else (zzix lwSm 48 (zzI Mm1 28 36) (zzlet (zzsI Mm1 48 (zzI Mm1 28 36).toNatClampNeg val.toInt32) fun M => zzlet (zzI M 28 36) fun x25 => zzlet (x25 + (1 : Int32)) fun x26 => zzlet (zzsI M 28 36 x26) fun M => some ((), M)))) else (if kd = (12 : Int32) then (zzcall (F_Md_raise lwSm Mm1 28 (4 : Int32) (nI p) val.toInt32) fun r19 M => some ((), M)) else (if kd = (13 : Int32) then (zzcall (F_Md_addObject lwSm Mm1 28 val) fun r13 M => if r13 = (-1 : Int32) then (zzlet (zzI M 28 51) fun x14 => zzcall (F_Md_raise lwSm M 28 (3 : Int32) x14 (0 : Int32)) fun r15 M => some ((), M)) else (some ((), M))) else (zzcall (F_Md_makeList lwSm Mm1 28 val) fun r9 M => if r9 = 0 then (zzlet (zzI M 28 51) fun x10 => zzcall (F_Md_raise lwSm M 28 (3 : Int32) x10 (0 : Int32)) fun r11 M => some ((), M)) else (some ((), M)))))) := by
      simp only [F_Md_act, if_neg n14, if_neg n15, if_true, plet, pcall, pck, pI_I, pI_L, pI_R, pL_I, pL_L, pL_R, pR_I, pR_L, pR_R, mR_10 hR, mr_36, w_ix mn_36 hw hi, w_k hw hi, a2, e7, g2, mR_37 hR1, mr_48]
      rw [if_neg (by decide)]
      rcases hak with ⟨_, h⟩ | ⟨_, h⟩ | ⟨_, h⟩ | ⟨_, h⟩ <;> subst h <;> rfl
    rw [hx, hy]
    rcases hak with ⟨h, h'⟩ | ⟨h, h'⟩ | ⟨h, h'⟩ | ⟨h, h'⟩ <;> subst h <;> subst h'
    · obtain ⟨k, hk1, hk2, hk3⟩ := hD1.1.2.2.2.2.1.2.2.1
      rw [if_pos rfl, if_pos rfl]
      simp only [F_Rp_addOutput, plet, pcall, pck, pI_I, pI_L, pI_R, pL_I, pL_L, pL_R, pR_I, pR_L, pR_R, hk2, hk3]
      by_cases h40 : k < 40
      · refine Or.inl ⟨_, _, o, ll, ?_, ?_, hD1.out h40 val.toInt32, (fX_KA a3 a4).tr ((fX_I (by omega) (by omega)).tr (fX_I (by omega) (by omega))), (errS_K a3).tr ⟨rfl, rfl, rfl⟩⟩
        · simp only [if_neg (show ¬ (40 : Int32) ≤ nI k from nI_ge (b := 40) h40 (by omega)), cR_19_0 hC1, cr_20 hS, pix (cn_20 hS) h40 (by omega), pnI (show k < 100000 by omega), plet, pcall, pck, pI_I, pI_L, pI_R, pL_I, pL_L, pL_R, pR_I, pR_L, pR_R, nI_succ]
          rfl
        · simp only [if_neg (show ¬ (40 : Int32) ≤ nI k from nI_ge (b := 40) h40 (by omega)), pix (S := lwSm) mn_48 h40 (by omega), pnI (show k < 100000 by omega), plet, pcall, pck, pI_I, pI_L, pI_R, pL_I, pL_L, pL_R, pR_I, pR_L, pR_R, nI_succ]
          rfl
      · have h40' : (40 : Int32) ≤ nI k := nI_le (a := 40) (by omega) (by omega)
        refine Or.inl ⟨Mc1, Mm1, o, ll, ?_, ?_, hD1, fX_KA a3 a4, errS_K a3⟩
        · simp only [if_pos h40', plet, pcall, pck, pI_I, pI_L, pI_R, pL_I, pL_L, pL_R, pR_I, pR_L, pR_R]
        · simp only [if_pos h40']
    · rw [if_neg (by decide), if_neg (by decide), if_neg (by decide), if_neg (by decide), if_pos rfl]
      exact oO_fail (kd := 4) (v := val.toInt32) (by decide) hD1 (fX_KA a3 a4) (by rw [c_fail hS hC1, pcall]) rfl
    · rw [if_neg (by decide), if_pos rfl, if_neg (by decide), if_neg (by decide), if_pos rfl]
      have ho := hD1.1.1.2.2.1
      have ho2 := hD1.1.1.2.2.2.1
      by_cases h12 : o < 12
      · have hn1 : ¬ nI o = -1 := fun h => by
          have h1 := nI_pos (n := o) (by omega)
          rw [h] at h1
          exact h1 (by decide)
        rw [c_create hS hC1 ho h12, m_addObject hR1 hD1.1.2.1.2.1 h12, pcall, pcall, if_neg hn1, if_neg hn1]
        exact Or.inl ⟨_, _, o + 1, ll, rfl, rfl, ((((((hD1.fld _ _).fld _ _).fld _ _).fld _ _).fld _ _).fld _ _).obj (by omega), (fX_KA a3 a4).tr (((((((fX_L (by omega) (by omega)).tr (fX_L (by omega) (by omega))).tr (fX_L (by omega) (by omega))).tr (fX_L (by omega) (by omega))).tr (fX_L (by omega) (by omega))).tr (fX_L (by omega) (by omega))).tr (fX_I (by omega) (by omega))), (errS_K a3).tr ⟨rfl, rfl, rfl⟩⟩
      · have h12' : o = 12 := by omega
        rw [c_create_n ho h12', m_addObject_n hD1.1.2.1.2.1 h12', pcall, pcall, if_pos rfl, if_pos rfl]
        exact oO_fail (kd := 3) (v := 0) (by decide) hD1 (fX_KA a3 a4) (by rw [c_fail hS hC1, pcall]) (by rw [plet, g2])
    · rw [if_neg (by decide), if_neg (by decide), if_pos rfl, if_neg (by decide), if_neg (by decide), if_neg (by decide), c_resize hS hC1, m_makeList hR1]
      by_cases hl : ¬ val < 0 ∧ val ≤ 20
      · obtain ⟨k, hk1, hk2⟩ := p_len hl
        rw [if_pos hl, if_pos hl, pcall, pcall, if_neg (by decide), if_neg (by decide), hk2]
        exact Or.inl ⟨_, _, o, k, rfl, rfl, (hD1.lst hk1).lfl, (fX_KA a3 a4).tr ((fX_I (by omega) (by omega)).tr (fX_fl (by omega) (by omega))), (errS_K a3).tr ⟨rfl, rfl, rfl⟩⟩
      · rw [if_neg hl, if_neg hl, pcall, pcall, if_pos rfl, if_pos rfl]
        exact oO_fail (kd := 3) (v := 0) (by decide) hD1 (fX_KA a3 a4) (by rw [c_fail hS hC1, pcall]) (by rw [plet, g2])
  · exact w_act_err hD hs hk hi hp n14 n15 a1 a2 a3 a4 a5 a6 h0
/-- & -/
theorem w_rule {S : zzS} {Mc Mm : zzM} {w o ll t s p i : Nat} (hD : dW S Mc Mm w o ll t) (hs63 : 63 ≤ s) (hs : s < S.2.1) (hk : zzk S s = 13) (hi : i < 600) (he : exR S Mc Mm w (zzR Mc s 5) (seM Mm w i)) : oO S w p s t Mc Mm (zzcall (F_Rp_addRule S Mc 19 (some s)) fun r7 M => some ((0 : Int32), M)) (F_Md_act lwSm Mm 28 14 (nI (600 * w + i))) := by
  obtain ⟨hS, hC, -⟩ := hD.1.1
  obtain ⟨hR, -⟩ := hD.1.2.1
  have hw := hD.1.2.2.2.1
  obtain ⟨k, hk1, hk2, hk3, -⟩ := hD.1.2.2.2.2.2.1
  simp only [F_Rp_addRule, F_Md_act, if_true, plet, pcall, pck, pI_I, pI_L, pI_R, pL_I, pL_L, pL_R, pR_I, pR_L, pR_R, hk2, hk3]
  by_cases h8 : k < 8
  · have h8' : ¬ (8 : Int32) ≤ nI k := nI_ge (b := 8) h8 (by omega)
    refine Or.inl ⟨_, _, o, ll, ?_, ?_, hD.rul h8 hk2 hs63 hs hk he, ((fX_R (k := k) (r := some s)).tr (fX_I (a := 19) (b := 49) (k := 3) (j := k) (v := nI (k + 1)) (x := seM Mm w i) (by omega) (by omega))).tr ?_, ⟨rfl, by simp [plet, pcall, pck, pI_I, pI_L, pI_R, pL_I, pL_L, pL_R, pR_I, pR_L, pR_R], rfl⟩⟩
    · simp only [if_neg h8', cR_19_2 hC, cr_21 hS, poptp hs hk, pix (cn_21 hS) h8 (by omega), pnI (show k < 100000 by omega), plet, pcall, pck, pI_I, pI_L, pI_R, pL_I, pL_L, pL_R, pR_I, pR_L, pR_R, hk2, nI_succ]
    · simp only [if_neg h8', mR_39 hR, mr_49, mR_10 hR, mr_36, w_ix mn_36 hw hi, w_k hw hi, pix (S := lwSm) mn_49 h8 (by omega), pnI (show k < 100000 by omega), plet, pcall, pck, pI_I, pI_L, pI_R, pL_I, pL_L, pL_R, pR_I, pR_L, pR_R, hk3, nI_succ]
      rfl
    · refine ⟨fcC.rf _, fcH.rf _ _, ?_⟩
      exact (fX_I (Mc := Mc) (a := 19) (k := 3) (v := 0) (by omega) (by omega)).2.2
  · have h8' : (8 : Int32) ≤ nI k := nI_le (a := 8) (by omega) (by omega)
    exact Or.inl ⟨Mc, Mm, o, ll, by simp only [if_pos h8', plet, pcall, pck, pI_I, pI_L, pI_R, pL_I, pL_L, pL_R, pR_I, pR_L, pR_R], by simp only [if_pos h8'], hD, fX.rf _ _, errS.rf _⟩
